set_option maxHeartbeats 40000000 in
set_option maxRecDepth 100000 in
theorem c_L_words {l : Launch} {D : va_G} {cI cG cC cR : ClassId} {aa : Nat → Nat → Nat} {x0 x1 x2 pp tt tl on k : Nat} {pf : Nat → Nat} {VV : Nat → Nat → Nat → Int32} {TV : Nat → Nat → Int32} {tex now past : Nat → Int32} (hX : XI now past k on VV) : CtI l yL_words wsL_words { frames := 4, cells := 0, slots := 0, locals := 86 } D (TY cI cG cC cR) [.ref x0] (XW aa x0 x1 x2 pp tt cI cG cC cR VV TV tex pf tl on k) (fun (_ : Unit) => XW aa x0 x1 x2 pp tt cI cG cC cR VV TV tex pf tl on k) (fun (r : Int32) (_ : Unit) => r = nI 1) := by
  refine CtI.of (cc := cL_words) (maxL := 14) (ty := .boolean) (by decide) rfl (Nat.le_of_ble_eq_true rfl) ?_
  intro P0 e0 s0 m0 a0 b0 t0 c0 A0 Q0 ls F hK hP hD hA RETN hl
  obtain ⟨hx, hb, hml, hown, hts⟩ := id F
  have hS : va_S A0 s0.heap s0.heap [] := va_S.rf
  have hl : lv_has ls 14 [(0, .ref x0)] := hl
  obtain ⟨hon, hk5, R, hI, hH⟩ := id hX
  obtain ⟨ki, kb, kB, kz, ko⟩ := id hI
  refine lv_iconst (v := (nI 0)) hx hb dL_words_0 (by decide) ?_
  refine lv_istore_n (lv' := [(1, .int (nI 0)), (0, .ref x0)]) hx hb dL_words_1 rfl hl (by decide) rfl (fun ls hl => ?_)
  refine lv_iconst (v := (nI 0)) hx hb dL_words_2 (by decide) ?_
  refine lv_istore_n (lv' := [(2, .int (nI 0)), (1, .int (nI 0)), (0, .ref x0)]) hx hb dL_words_3 rfl hl (by decide) rfl (fun ls hl => ?_)
  refine lv_iconst (v := (nI 0)) hx hb dL_words_4 (by decide) ?_
  refine lv_istore_n (lv' := [(3, .int (nI 0)), (2, .int (nI 0)), (1, .int (nI 0)), (0, .ref x0)]) hx hb dL_words_5 rfl hl (by decide) rfl (fun ls hl => ?_)
  refine lv_bipush (v := (-9)) hx hb dL_words_6 (by decide) ?_
  refine lv_istore (lv' := [(4, .int (-9)), (3, .int (nI 0)), (2, .int (nI 0)), (1, .int (nI 0)), (0, .ref x0)]) hx hb dL_words_8 hl (by decide) rfl (fun ls hl => ?_)
  refine lv_iconst (v := (nI 0)) hx hb dL_words_10 (by decide) ?_
  refine lv_istore (lv' := [(5, .int (nI 0)), (4, .int (-9)), (3, .int (nI 0)), (2, .int (nI 0)), (1, .int (nI 0)), (0, .ref x0)]) hx hb dL_words_11 hl (by decide) rfl (fun ls hl => ?_)
  refine lv_iconst (v := (nI 0)) hx hb dL_words_13 (by decide) ?_
  refine lv_istore (lv' := [(6, .int (nI 0)), (5, .int (nI 0)), (4, .int (-9)), (3, .int (nI 0)), (2, .int (nI 0)), (1, .int (nI 0)), (0, .ref x0)]) hx hb dL_words_14 hl (by decide) rfl (fun ls hl => ?_)
  have LP16 : ∀ (nn : Nat) (vb : Nat) (vf : Nat) (vw : Nat) (o : Option Nat) (vo : Nat) (w : Nat) (H : Heap) (locs : List Loc) (ls : Array Slot), (w ≤ 10) → (vb = biN now w) → (vf = fuN now w) → (vw = fb_ct (wr now) w) → (vo = fb_ct (wr1 now) w) → (o = ls1 (wr now) w 0) → 10 - w < nn → va_P D vwCl (XW aa x0 x1 x2 pp tt cI cG cC cR VV TV tex pf tl on k) H → va_D A0 (XW aa x0 x1 x2 pp tt cI cG cC cR VV TV tex pf tl on k) → va_S A0 s0.heap H locs → lv_has ls 14 [(6, .int (nI w)), (5, .int (nI vo)), (4, .int (oI o)), (3, .int (nI vw)), (2, .int (nI vf)), (1, .int (nI vb)), (0, .ref x0)] → W P0 l e0 { frames := 4, cells := 0, slots := 0, locals := 86 } s0 m0 a0 b0 t0 c0 H locs 0 0 Q0 (F0 m0 16 ls []) := by
    intro nn
    induction nn with
    | zero => intro vb vf vw o vo w H locs ls hw9 hvb hvf hvw hvo ho hmu; exact absurd hmu (Nat.not_lt_zero _)
    | succ nn ih16 =>
      intro vb vf vw o vo w H locs ls hw9 hvb hvf hvw hvo ho hmu16 hP hD hS hl
      refine lv_iload hx hb dL_words_16 (lv_at hl 0 rfl) ?_
      refine lv_bipush (v := (nI 10)) hx hb dL_words_18 (by decide) ?_
      refine lv_icmp_ge (tgt := 344) hx hb dL_words_20 (by decide) (fun c20 => ?_) (fun c20 => ?_)
      · skip
        replace c20 : 10 ≤ w := by rw [nI_leI (by omega) (by omega)] at c20; try exact c20
        obtain rfl : w = 10 := by omega
        have hbo1 : biN now 10 ≤ 10 := fb_ct_le _ _
        have hbo2 : fuN now 10 ≤ 10 := fb_ct_le _ _
        have hbo3 : fb_ct (wr now) 10 ≤ 10 := fb_ct_le _ _
        have hbo4 : fb_ct (wr1 now) 10 ≤ 10 := fb_ct_le _ _
        have htot := tot_sum ki
        refine lv_aload_n hx hb dL_words_344 rfl (lv_at hl 6 rfl) ?_
        refine lv_bipush (v := (nI 6)) hx hb dL_words_345 (by decide) ?_
        refine cl_VA (b := x0) (As := [.int (nI 6)]) (rest := []) F hK hA hP hD hS (c_X3_count hX) (cwV 1 hts gL_words_X3_count rfl rfl rfl (by decide +kernel) ⟨Nat.le_of_ble_eq_true rfl, Nat.le_of_ble_eq_true rfl⟩) rfl rfl rfl hl.1 rfl (Nat.le_of_ble_eq_true rfl) ⟨Nat.zero_le _, Nat.zero_le _⟩ dL_words_347 (fun r347 u347 H locs hw347 hP hD hS => ?_)
        try dsimp only at hw347 hP hD
        obtain rfl : r347 = (nI (biN now 10)) := by rw [hw347, ctA_j (by decide)]; rfl
        refine lv_iload_n hx hb dL_words_350 rfl (lv_at hl 5 rfl) ?_
        refine lv_icmp_ne (tgt := 426) hx hb dL_words_351 (by decide) (fun c351 => ?_) (fun c351 => ?_)
        · skip
          replace c351 : ¬ (biN now 10) = vb := by rw [nI_eq (by omega) (by omega)] at c351; try exact c351
          exfalso
          omega
        · skip
          replace c351 : (biN now 10) = vb := by rw [nI_eq (by omega) (by omega)] at c351; try exact c351
          refine lv_aload_n hx hb dL_words_354 rfl (lv_at hl 6 rfl) ?_
          refine lv_bipush (v := (nI 7)) hx hb dL_words_355 (by decide) ?_
          refine cl_VA (b := x0) (As := [.int (nI 7)]) (rest := []) F hK hA hP hD hS (c_X3_count hX) (cwV 1 hts gL_words_X3_count rfl rfl rfl (by decide +kernel) ⟨Nat.le_of_ble_eq_true rfl, Nat.le_of_ble_eq_true rfl⟩) rfl rfl rfl hl.1 rfl (Nat.le_of_ble_eq_true rfl) ⟨Nat.zero_le _, Nat.zero_le _⟩ dL_words_357 (fun r357 u357 H locs hw357 hP hD hS => ?_)
          try dsimp only at hw357 hP hD
          obtain rfl : r357 = (nI (fuN now 10)) := by rw [hw357, ctA_j (by decide)]; rfl
          refine lv_iload_n hx hb dL_words_360 rfl (lv_at hl 4 rfl) ?_
          refine lv_icmp_ne (tgt := 426) hx hb dL_words_361 (by decide) (fun c361 => ?_) (fun c361 => ?_)
          · skip
            replace c361 : ¬ (fuN now 10) = vf := by rw [nI_eq (by omega) (by omega)] at c361; try exact c361
            exfalso
            omega
          · skip
            replace c361 : (fuN now 10) = vf := by rw [nI_eq (by omega) (by omega)] at c361; try exact c361
            refine lv_aload_n hx hb dL_words_364 rfl (lv_at hl 6 rfl) ?_
            refine lv_iconst (v := (nI 0)) hx hb dL_words_365 (by decide) ?_
            refine cl_VA (b := x0) (As := [.int (nI 0)]) (rest := []) F hK hA hP hD hS (c_X3_audit hX) (cwV 1 hts gL_words_X3_audit rfl rfl rfl (by decide +kernel) ⟨Nat.le_of_ble_eq_true rfl, Nat.le_of_ble_eq_true rfl⟩) rfl rfl rfl hl.1 rfl (Nat.le_of_ble_eq_true rfl) ⟨Nat.zero_le _, Nat.zero_le _⟩ dL_words_366 (fun r366 u366 H locs hw366 hP hD hS => ?_)
            try dsimp only at hw366 hP hD
            obtain rfl : r366 = (nI (fb_ct (wr now) 10)) := by rw [hw366, adA_j (by decide)]; rfl
            refine lv_iload_n hx hb dL_words_369 rfl (lv_at hl 3 rfl) ?_
            refine lv_icmp_ne (tgt := 426) hx hb dL_words_370 (by decide) (fun c370 => ?_) (fun c370 => ?_)
            · skip
              replace c370 : ¬ (fb_ct (wr now) 10) = vw := by rw [nI_eq (by omega) (by omega)] at c370; try exact c370
              exfalso
              omega
            · skip
              replace c370 : (fb_ct (wr now) 10) = vw := by rw [nI_eq (by omega) (by omega)] at c370; try exact c370
              refine lv_aload_n hx hb dL_words_373 rfl (lv_at hl 6 rfl) ?_
              refine lv_iconst (v := (nI 1)) hx hb dL_words_374 (by decide) ?_
              refine cl_VA (b := x0) (As := [.int (nI 1)]) (rest := []) F hK hA hP hD hS (c_X3_audit hX) (cwV 1 hts gL_words_X3_audit rfl rfl rfl (by decide +kernel) ⟨Nat.le_of_ble_eq_true rfl, Nat.le_of_ble_eq_true rfl⟩) rfl rfl rfl hl.1 rfl (Nat.le_of_ble_eq_true rfl) ⟨Nat.zero_le _, Nat.zero_le _⟩ dL_words_375 (fun r375 u375 H locs hw375 hP hD hS => ?_)
              try dsimp only at hw375 hP hD
              obtain rfl : r375 = (oI (ls1 (wr now) 10 0)) := by rw [hw375, adA_j (by decide)]; rfl
              refine lv_iload hx hb dL_words_378 (lv_at hl 2 rfl) ?_
              refine lv_icmp_ne (tgt := 426) hx hb dL_words_380 (by decide) (fun c380 => ?_) (fun c380 => ?_)
              · skip
                exfalso
                exact c380 (by rw [ho])
              · skip
                refine lv_aload_n hx hb dL_words_383 rfl (lv_at hl 6 rfl) ?_
                refine lv_iconst (v := (nI 2)) hx hb dL_words_384 (by decide) ?_
                refine cl_VA (b := x0) (As := [.int (nI 2)]) (rest := []) F hK hA hP hD hS (c_X3_audit hX) (cwV 1 hts gL_words_X3_audit rfl rfl rfl (by decide +kernel) ⟨Nat.le_of_ble_eq_true rfl, Nat.le_of_ble_eq_true rfl⟩) rfl rfl rfl hl.1 rfl (Nat.le_of_ble_eq_true rfl) ⟨Nat.zero_le _, Nat.zero_le _⟩ dL_words_385 (fun r385 u385 H locs hw385 hP hD hS => ?_)
                try dsimp only at hw385 hP hD
                obtain rfl : r385 = (nI (fb_ct (wr1 now) 10)) := by rw [hw385, adA_j (by decide)]; rfl
                refine lv_iload hx hb dL_words_388 (lv_at hl 1 rfl) ?_
                refine lv_icmp_ne (tgt := 426) hx hb dL_words_390 (by decide) (fun c390 => ?_) (fun c390 => ?_)
                · skip
                  replace c390 : ¬ (fb_ct (wr1 now) 10) = vo := by rw [nI_eq (by omega) (by omega)] at c390; try exact c390
                  exfalso
                  omega
                · skip
                  replace c390 : (fb_ct (wr1 now) 10) = vo := by rw [nI_eq (by omega) (by omega)] at c390; try exact c390
                  refine lv_aload_n hx hb dL_words_393 rfl (lv_at hl 6 rfl) ?_
                  refine lv_iconst (v := (nI 0)) hx hb dL_words_394 (by decide) ?_
                  refine cl_VA (b := x0) (As := [.int (nI 0)]) (rest := []) F hK hA hP hD hS (c_X3_count hX) (cwV 1 hts gL_words_X3_count rfl rfl rfl (by decide +kernel) ⟨Nat.le_of_ble_eq_true rfl, Nat.le_of_ble_eq_true rfl⟩) rfl rfl rfl hl.1 rfl (Nat.le_of_ble_eq_true rfl) ⟨Nat.zero_le _, Nat.zero_le _⟩ dL_words_395 (fun r395 u395 H locs hw395 hP hD hS => ?_)
                  try dsimp only at hw395 hP hD
                  obtain rfl : r395 = (nI (tot now (nI 0))) := by rw [hw395, ctA_j (by decide)]; rfl
                  refine lv_aload_n hx hb dL_words_398 rfl (lv_at hl 6 rfl) ?_
                  refine lv_iconst (v := (nI 1)) hx hb dL_words_399 (by decide) ?_
                  refine cl_VA (b := x0) (As := [.int (nI 1)]) (rest := [.int (nI (tot now (nI 0)))]) F hK hA hP hD hS (c_X3_count hX) (cwV 1 hts gL_words_X3_count rfl rfl rfl (by decide +kernel) ⟨Nat.le_of_ble_eq_true rfl, Nat.le_of_ble_eq_true rfl⟩) rfl rfl rfl hl.1 rfl (Nat.le_of_ble_eq_true rfl) ⟨Nat.zero_le _, Nat.zero_le _⟩ dL_words_400 (fun r400 u400 H locs hw400 hP hD hS => ?_)
                  try dsimp only at hw400 hP hD
                  obtain rfl : r400 = (nI (tot now (nI 1))) := by rw [hw400, ctA_j (by decide)]; rfl
                  refine lv_iadd hx hb dL_words_403 ?_
                  refine n_as (x' := nI ((tot now (nI 0)) + (tot now (nI 1)))) (nI_add _ _) ?_
                  refine lv_aload_n hx hb dL_words_404 rfl (lv_at hl 6 rfl) ?_
                  refine lv_iconst (v := (nI 2)) hx hb dL_words_405 (by decide) ?_
                  refine cl_VA (b := x0) (As := [.int (nI 2)]) (rest := [.int (nI ((tot now (nI 0)) + (tot now (nI 1))))]) F hK hA hP hD hS (c_X3_count hX) (cwV 1 hts gL_words_X3_count rfl rfl rfl (by decide +kernel) ⟨Nat.le_of_ble_eq_true rfl, Nat.le_of_ble_eq_true rfl⟩) rfl rfl rfl hl.1 rfl (Nat.le_of_ble_eq_true rfl) ⟨Nat.zero_le _, Nat.zero_le _⟩ dL_words_406 (fun r406 u406 H locs hw406 hP hD hS => ?_)
                  try dsimp only at hw406 hP hD
                  obtain rfl : r406 = (nI (tot now (nI 2))) := by rw [hw406, ctA_j (by decide)]; rfl
                  refine lv_iadd hx hb dL_words_409 ?_
                  refine n_as (x' := nI (((tot now (nI 0)) + (tot now (nI 1))) + (tot now (nI 2)))) (nI_add _ _) ?_
                  refine lv_aload_n hx hb dL_words_410 rfl (lv_at hl 6 rfl) ?_
                  refine lv_iconst (v := (nI 3)) hx hb dL_words_411 (by decide) ?_
                  refine cl_VA (b := x0) (As := [.int (nI 3)]) (rest := [.int (nI (((tot now (nI 0)) + (tot now (nI 1))) + (tot now (nI 2))))]) F hK hA hP hD hS (c_X3_count hX) (cwV 1 hts gL_words_X3_count rfl rfl rfl (by decide +kernel) ⟨Nat.le_of_ble_eq_true rfl, Nat.le_of_ble_eq_true rfl⟩) rfl rfl rfl hl.1 rfl (Nat.le_of_ble_eq_true rfl) ⟨Nat.zero_le _, Nat.zero_le _⟩ dL_words_412 (fun r412 u412 H locs hw412 hP hD hS => ?_)
                  try dsimp only at hw412 hP hD
                  obtain rfl : r412 = (nI (tot now (nI 3))) := by rw [hw412, ctA_j (by decide)]; rfl
                  refine lv_iadd hx hb dL_words_415 ?_
                  refine n_as (x' := nI ((((tot now (nI 0)) + (tot now (nI 1))) + (tot now (nI 2))) + (tot now (nI 3)))) (nI_add _ _) ?_
                  refine lv_sipush (v := (nI 320)) hx hb dL_words_416 (by decide) ?_
                  refine lv_icmp_ne (tgt := 426) hx hb dL_words_419 (by decide) (fun c419 => ?_) (fun c419 => ?_)
                  · skip
                    replace c419 : ¬ ((((tot now (nI 0)) + (tot now (nI 1))) + (tot now (nI 2))) + (tot now (nI 3))) = 320 := by rw [nI_eq (by omega) (by omega)] at c419; try exact c419
                    exfalso
                    omega
                  · skip
                    replace c419 : ((((tot now (nI 0)) + (tot now (nI 1))) + (tot now (nI 2))) + (tot now (nI 3))) = 320 := by rw [nI_eq (by omega) (by omega)] at c419; try exact c419
                    refine lv_iconst (v := (nI 1)) hx hb dL_words_422 (by decide) ?_
                    refine lv_goto (tgt := 427) hx hb dL_words_423 (by decide) ?_
                    exact RETN _ _ (nI 1) () _ _ dL_words_427 rfl (rfl) hP hD hS
      · skip
        replace c20 : ¬ (10 ≤ w) := by rw [nI_leI (by omega) (by omega)] at c20; try exact c20
        have hbo1 : biN now w ≤ w := fb_ct_le _ _
        have hbo2 : fuN now w ≤ w := fb_ct_le _ _
        have hbo3 : fb_ct (wr now) w ≤ w := fb_ct_le _ _
        have hbo4 : fb_ct (wr1 now) w ≤ w := fb_ct_le _ _
        refine lv_iconst (v := (nI 0)) hx hb dL_words_23 (by decide) ?_
        refine lv_istore (lv' := [(7, .int (nI 0)), (6, .int (nI w)), (5, .int (nI vo)), (4, .int (oI o)), (3, .int (nI vw)), (2, .int (nI vf)), (1, .int (nI vb)), (0, .ref x0)]) hx hb dL_words_24 hl (by decide) rfl (fun ls hl => ?_)
        refine lv_iconst (v := (nI 0)) hx hb dL_words_26 (by decide) ?_
        refine lv_istore (lv' := [(8, .int (nI 0)), (7, .int (nI 0)), (6, .int (nI w)), (5, .int (nI vo)), (4, .int (oI o)), (3, .int (nI vw)), (2, .int (nI vf)), (1, .int (nI vb)), (0, .ref x0)]) hx hb dL_words_27 hl (by decide) rfl (fun ls hl => ?_)
        refine lv_iconst (v := (nI 0)) hx hb dL_words_29 (by decide) ?_
        refine lv_istore (lv' := [(9, .int (nI 0)), (8, .int (nI 0)), (7, .int (nI 0)), (6, .int (nI w)), (5, .int (nI vo)), (4, .int (oI o)), (3, .int (nI vw)), (2, .int (nI vf)), (1, .int (nI vb)), (0, .ref x0)]) hx hb dL_words_30 hl (by decide) rfl (fun ls hl => ?_)
        refine lv_iconst (v := (nI 0)) hx hb dL_words_32 (by decide) ?_
        refine lv_istore (lv' := [(10, .int (nI 0)), (9, .int (nI 0)), (8, .int (nI 0)), (7, .int (nI 0)), (6, .int (nI w)), (5, .int (nI vo)), (4, .int (oI o)), (3, .int (nI vw)), (2, .int (nI vf)), (1, .int (nI vb)), (0, .ref x0)]) hx hb dL_words_33 hl (by decide) rfl (fun ls hl => ?_)
        refine lv_bipush (v := (-9)) hx hb dL_words_35 (by decide) ?_
        refine lv_istore (lv' := [(11, .int (-9)), (10, .int (nI 0)), (9, .int (nI 0)), (8, .int (nI 0)), (7, .int (nI 0)), (6, .int (nI w)), (5, .int (nI vo)), (4, .int (oI o)), (3, .int (nI vw)), (2, .int (nI vf)), (1, .int (nI vb)), (0, .ref x0)]) hx hb dL_words_37 hl (by decide) rfl (fun ls hl => ?_)
        refine lv_bipush (v := (nI 32)) hx hb dL_words_39 (by decide) ?_
        refine lv_iload hx hb dL_words_41 (lv_at hl 5 rfl) ?_
        refine lv_imul hx hb dL_words_43 ?_
        refine n_as (x' := nI (32 * w)) (pk_mul _ _) ?_
        refine lv_bipush (v := (nI 31)) hx hb dL_words_44 (by decide) ?_
        refine lv_iadd hx hb dL_words_46 ?_
        refine n_as (x' := nI ((32 * w) + 31)) (nI_add _ _) ?_
        refine lv_istore (lv' := [(12, .int (nI ((32 * w) + 31))), (11, .int (-9)), (10, .int (nI 0)), (9, .int (nI 0)), (8, .int (nI 0)), (7, .int (nI 0)), (6, .int (nI w)), (5, .int (nI vo)), (4, .int (oI o)), (3, .int (nI vw)), (2, .int (nI vf)), (1, .int (nI vb)), (0, .ref x0)]) hx hb dL_words_47 hl (by decide) rfl (fun ls hl => ?_)
        have LP49 : ∀ (nn : Nat) (y0 : Nat) (y1 : Nat) (y2 : Nat) (y3 : Nat) (oa : Option Nat) (n : Nat) (H : Heap) (locs : List Loc) (ls : Array Slot), (32 * w ≤ n ∧ n ≤ 32 * w + 32) → (y0 = cdn now 0 n (32 * w + 32)) → (y1 = cdn now 1 n (32 * w + 32)) → (y2 = cdn now 2 n (32 * w + 32)) → (y3 = cdn now 3 n (32 * w + 32)) → (oa = ls1 (fr now) (32 * w + 32 - n) n) → n < nn → va_P D vwCl (XW aa x0 x1 x2 pp tt cI cG cC cR VV TV tex pf tl on k) H → va_D A0 (XW aa x0 x1 x2 pp tt cI cG cC cR VV TV tex pf tl on k) → va_S A0 s0.heap H locs → lv_has ls 14 [(12, .int (dn n)), (11, .int (oI oa)), (10, .int (nI y3)), (9, .int (nI y2)), (8, .int (nI y1)), (7, .int (nI y0)), (6, .int (nI w)), (5, .int (nI vo)), (4, .int (oI o)), (3, .int (nI vw)), (2, .int (nI vf)), (1, .int (nI vb)), (0, .ref x0)] → W P0 l e0 { frames := 4, cells := 0, slots := 0, locals := 86 } s0 m0 a0 b0 t0 c0 H locs 0 0 Q0 (F0 m0 49 ls []) := by
          intro nn
          induction nn with
          | zero => intro y0 y1 y2 y3 oa n H locs ls hn h0 h1 h2 h3 ha hmu; exact absurd hmu (Nat.not_lt_zero _)
          | succ nn ih49 =>
            intro y0 y1 y2 y3 oa n H locs ls hn h0 h1 h2 h3 ha hmu49 hP hD hS hl
            refine lv_iload hx hb dL_words_49 (lv_at hl 0 rfl) ?_
            refine lv_bipush (v := (nI 32)) hx hb dL_words_51 (by decide) ?_
            refine lv_iload hx hb dL_words_53 (lv_at hl 6 rfl) ?_
            refine lv_imul hx hb dL_words_55 ?_
            refine n_as (x' := nI (32 * w)) (pk_mul _ _) ?_
            refine lv_icmp_lt (tgt := 151) hx hb dL_words_56 (by decide) (fun c56 => ?_) (fun c56 => ?_)
            · skip
              replace c56 : n ≤ 32 * w := (dn_lt (by omega) (by omega)).mp c56
              obtain rfl : n = 32 * w := by omega
              have hq0 : y0 = cw now w (nI 0) := h0.trans (cdn_cw now 0 w)
              have hq1 : y1 = cw now w (nI 1) := h1.trans (cdn_cw now 1 w)
              have hq2 : y2 = cw now w (nI 2) := h2.trans (cdn_cw now 2 w)
              have hq3 : y3 = cw now w (nI 3) := h3.trans (cdn_cw now 3 w)
              have hle0 := cw_le now w (nI 0)
              have hle1 := cw_le now w (nI 1)
              have hle2 := cw_le now w (nI 2)
              have hle3 := cw_le now w (nI 3)
              have hsum := cw_sum ki (w := w) (by omega)
              have ha : oa = fi now w := by rw [ha, show 32 * w + 32 - 32 * w = 32 by omega]; rfl
              refine lv_aload_n hx hb dL_words_151 rfl (lv_at hl 12 rfl) ?_
              refine lv_iload hx hb dL_words_152 (lv_at hl 6 rfl) ?_
              refine lv_iconst (v := (nI 4)) hx hb dL_words_154 (by decide) ?_
              refine cl_VA (b := x0) (As := [.int (nI w), .int (nI 4)]) (rest := []) F hK hA hP hD hS (c_X3_word hX) (cwV 2 hts gL_words_X3_word rfl rfl rfl (by decide +kernel) ⟨Nat.le_of_ble_eq_true rfl, Nat.le_of_ble_eq_true rfl⟩) rfl rfl rfl hl.1 rfl (Nat.le_of_ble_eq_true rfl) ⟨Nat.zero_le _, Nat.zero_le _⟩ dL_words_155 (fun r155 u155 H locs hw155 hP hD hS => ?_)
              try dsimp only at hw155 hP hD
              obtain rfl : r155 = (now (640 + w)) := by rw [hw155, wdA_j (by omega) (by decide)]; rfl
              rcases kb w (by omega) with hbw | hbw
              ·
                skip
                refine n_as (x' := nI 0) hbw ?_
                refine lv_istore (lv' := [(12, .int (nI 0)), (11, .int (oI oa)), (10, .int (nI y3)), (9, .int (nI y2)), (8, .int (nI y1)), (7, .int (nI y0)), (6, .int (nI w)), (5, .int (nI vo)), (4, .int (oI o)), (3, .int (nI vw)), (2, .int (nI vf)), (1, .int (nI vb)), (0, .ref x0)]) hx hb dL_words_158 hl (by decide) rfl (fun ls hl => ?_)
                refine lv_iload hx hb dL_words_160 (lv_at hl 5 rfl) ?_
                refine lv_if_ne (tgt := 169) hx hb dL_words_162 (by decide) (fun c162 => ?_) (fun c162 => ?_)
                · skip
                  replace c162 : ¬ y0 = 0 := by rw [show (0 : Int32) = nI 0 from rfl, nI_eq (by omega) (by omega)] at c162; try exact c162
                  have hrt : rt now w = nI 0 := rt_f (by omega)
                  refine lv_iconst (v := (nI 0)) hx hb dL_words_169 (by decide) ?_
                  refine lv_istore (lv' := [(13, .int (nI 0)), (12, .int (nI 0)), (11, .int (oI oa)), (10, .int (nI y3)), (9, .int (nI y2)), (8, .int (nI y1)), (7, .int (nI y0)), (6, .int (nI w)), (5, .int (nI vo)), (4, .int (oI o)), (3, .int (nI vw)), (2, .int (nI vf)), (1, .int (nI vb)), (0, .ref x0)]) hx hb dL_words_170 hl (by decide) rfl (fun ls hl => ?_)
                  refine lv_iload hx hb dL_words_172 (lv_at hl 6 rfl) ?_
                  refine lv_iload hx hb dL_words_174 (lv_at hl 5 rfl) ?_
                  refine lv_iadd hx hb dL_words_176 ?_
                  refine n_as (x' := nI (y0 + y1)) (nI_add _ _) ?_
                  refine lv_iload hx hb dL_words_177 (lv_at hl 4 rfl) ?_
                  refine lv_iadd hx hb dL_words_179 ?_
                  refine n_as (x' := nI ((y0 + y1) + y2)) (nI_add _ _) ?_
                  refine lv_iload hx hb dL_words_180 (lv_at hl 3 rfl) ?_
                  refine lv_iadd hx hb dL_words_182 ?_
                  refine n_as (x' := nI (((y0 + y1) + y2) + y3)) (nI_add _ _) ?_
                  refine lv_bipush (v := (nI 32)) hx hb dL_words_183 (by decide) ?_
                  refine lv_icmp_ne (tgt := 272) hx hb dL_words_185 (by decide) (fun c185 => ?_) (fun c185 => ?_)
                  · skip
                    replace c185 : ¬ (((y0 + y1) + y2) + y3) = 32 := by rw [nI_eq (by omega) (by omega)] at c185; try exact c185
                    exfalso
                    omega
                  · skip
                    replace c185 : (((y0 + y1) + y2) + y3) = 32 := by rw [nI_eq (by omega) (by omega)] at c185; try exact c185
                    refine lv_aload_n hx hb dL_words_188 rfl (lv_at hl 13 rfl) ?_
                    refine lv_iload hx hb dL_words_189 (lv_at hl 7 rfl) ?_
                    refine lv_iconst (v := (nI 0)) hx hb dL_words_191 (by decide) ?_
                    refine cl_VA (b := x0) (As := [.int (nI w), .int (nI 0)]) (rest := []) F hK hA hP hD hS (c_X3_word hX) (cwV 2 hts gL_words_X3_word rfl rfl rfl (by decide +kernel) ⟨Nat.le_of_ble_eq_true rfl, Nat.le_of_ble_eq_true rfl⟩) rfl rfl rfl hl.1 rfl (Nat.le_of_ble_eq_true rfl) ⟨Nat.zero_le _, Nat.zero_le _⟩ dL_words_192 (fun r192 u192 H locs hw192 hP hD hS => ?_)
                    try dsimp only at hw192 hP hD
                    obtain rfl : r192 = (nI (cw now w (nI 0))) := by rw [hw192, wdA_j (by omega) (by decide)]; rfl
                    refine lv_iload hx hb dL_words_195 (lv_at hl 6 rfl) ?_
                    refine lv_icmp_ne (tgt := 272) hx hb dL_words_197 (by decide) (fun c197 => ?_) (fun c197 => ?_)
                    · skip
                      replace c197 : ¬ (cw now w (nI 0)) = y0 := by rw [nI_eq (by omega) (by omega)] at c197; try exact c197
                      exfalso
                      omega
                    · skip
                      replace c197 : (cw now w (nI 0)) = y0 := by rw [nI_eq (by omega) (by omega)] at c197; try exact c197
                      refine lv_aload_n hx hb dL_words_200 rfl (lv_at hl 13 rfl) ?_
                      refine lv_iload hx hb dL_words_201 (lv_at hl 7 rfl) ?_
                      refine lv_iconst (v := (nI 1)) hx hb dL_words_203 (by decide) ?_
                      refine cl_VA (b := x0) (As := [.int (nI w), .int (nI 1)]) (rest := []) F hK hA hP hD hS (c_X3_word hX) (cwV 2 hts gL_words_X3_word rfl rfl rfl (by decide +kernel) ⟨Nat.le_of_ble_eq_true rfl, Nat.le_of_ble_eq_true rfl⟩) rfl rfl rfl hl.1 rfl (Nat.le_of_ble_eq_true rfl) ⟨Nat.zero_le _, Nat.zero_le _⟩ dL_words_204 (fun r204 u204 H locs hw204 hP hD hS => ?_)
                      try dsimp only at hw204 hP hD
                      obtain rfl : r204 = (nI (cw now w (nI 1))) := by rw [hw204, wdA_j (by omega) (by decide)]; rfl
                      refine lv_iload hx hb dL_words_207 (lv_at hl 5 rfl) ?_
                      refine lv_icmp_ne (tgt := 272) hx hb dL_words_209 (by decide) (fun c209 => ?_) (fun c209 => ?_)
                      · skip
                        replace c209 : ¬ (cw now w (nI 1)) = y1 := by rw [nI_eq (by omega) (by omega)] at c209; try exact c209
                        exfalso
                        omega
                      · skip
                        replace c209 : (cw now w (nI 1)) = y1 := by rw [nI_eq (by omega) (by omega)] at c209; try exact c209
                        refine lv_aload_n hx hb dL_words_212 rfl (lv_at hl 13 rfl) ?_
                        refine lv_iload hx hb dL_words_213 (lv_at hl 7 rfl) ?_
                        refine lv_iconst (v := (nI 2)) hx hb dL_words_215 (by decide) ?_
                        refine cl_VA (b := x0) (As := [.int (nI w), .int (nI 2)]) (rest := []) F hK hA hP hD hS (c_X3_word hX) (cwV 2 hts gL_words_X3_word rfl rfl rfl (by decide +kernel) ⟨Nat.le_of_ble_eq_true rfl, Nat.le_of_ble_eq_true rfl⟩) rfl rfl rfl hl.1 rfl (Nat.le_of_ble_eq_true rfl) ⟨Nat.zero_le _, Nat.zero_le _⟩ dL_words_216 (fun r216 u216 H locs hw216 hP hD hS => ?_)
                        try dsimp only at hw216 hP hD
                        obtain rfl : r216 = (nI (cw now w (nI 2))) := by rw [hw216, wdA_j (by omega) (by decide)]; rfl
                        refine lv_iload hx hb dL_words_219 (lv_at hl 4 rfl) ?_
                        refine lv_icmp_ne (tgt := 272) hx hb dL_words_221 (by decide) (fun c221 => ?_) (fun c221 => ?_)
                        · skip
                          replace c221 : ¬ (cw now w (nI 2)) = y2 := by rw [nI_eq (by omega) (by omega)] at c221; try exact c221
                          exfalso
                          omega
                        · skip
                          replace c221 : (cw now w (nI 2)) = y2 := by rw [nI_eq (by omega) (by omega)] at c221; try exact c221
                          refine lv_aload_n hx hb dL_words_224 rfl (lv_at hl 13 rfl) ?_
                          refine lv_iload hx hb dL_words_225 (lv_at hl 7 rfl) ?_
                          refine lv_iconst (v := (nI 3)) hx hb dL_words_227 (by decide) ?_
                          refine cl_VA (b := x0) (As := [.int (nI w), .int (nI 3)]) (rest := []) F hK hA hP hD hS (c_X3_word hX) (cwV 2 hts gL_words_X3_word rfl rfl rfl (by decide +kernel) ⟨Nat.le_of_ble_eq_true rfl, Nat.le_of_ble_eq_true rfl⟩) rfl rfl rfl hl.1 rfl (Nat.le_of_ble_eq_true rfl) ⟨Nat.zero_le _, Nat.zero_le _⟩ dL_words_228 (fun r228 u228 H locs hw228 hP hD hS => ?_)
                          try dsimp only at hw228 hP hD
                          obtain rfl : r228 = (nI (cw now w (nI 3))) := by rw [hw228, wdA_j (by omega) (by decide)]; rfl
                          refine lv_iload hx hb dL_words_231 (lv_at hl 3 rfl) ?_
                          refine lv_icmp_ne (tgt := 272) hx hb dL_words_233 (by decide) (fun c233 => ?_) (fun c233 => ?_)
                          · skip
                            replace c233 : ¬ (cw now w (nI 3)) = y3 := by rw [nI_eq (by omega) (by omega)] at c233; try exact c233
                            exfalso
                            omega
                          · skip
                            replace c233 : (cw now w (nI 3)) = y3 := by rw [nI_eq (by omega) (by omega)] at c233; try exact c233
                            refine lv_iload hx hb dL_words_236 (lv_at hl 1 rfl) ?_
                            refine lv_if_lt (tgt := 272) hx hb dL_words_238 (by decide) (fun c238 => ?_) (fun c238 => ?_)
                            · skip
                              exfalso
                              exact absurd c238 (by decide)
                            · skip
                              refine lv_iload hx hb dL_words_241 (lv_at hl 1 rfl) ?_
                              refine lv_iconst (v := (nI 1)) hx hb dL_words_243 (by decide) ?_
                              refine lv_icmp_gt (tgt := 272) hx hb dL_words_244 (by decide) (fun c244 => ?_) (fun c244 => ?_)
                              · skip
                                exfalso
                                exact absurd c244 (by decide)
                              · skip
                                refine lv_aload_n hx hb dL_words_247 rfl (lv_at hl 13 rfl) ?_
                                refine lv_iload hx hb dL_words_248 (lv_at hl 7 rfl) ?_
                                refine lv_iconst (v := (nI 5)) hx hb dL_words_250 (by decide) ?_
                                refine cl_VA (b := x0) (As := [.int (nI w), .int (nI 5)]) (rest := []) F hK hA hP hD hS (c_X3_word hX) (cwV 2 hts gL_words_X3_word rfl rfl rfl (by decide +kernel) ⟨Nat.le_of_ble_eq_true rfl, Nat.le_of_ble_eq_true rfl⟩) rfl rfl rfl hl.1 rfl (Nat.le_of_ble_eq_true rfl) ⟨Nat.zero_le _, Nat.zero_le _⟩ dL_words_251 (fun r251 u251 H locs hw251 hP hD hS => ?_)
                                try dsimp only at hw251 hP hD
                                obtain rfl : r251 = (nI 0) := by rw [hw251, wdA_j (by omega) (by decide)]; exact hrt
                                refine lv_iload hx hb dL_words_254 (lv_at hl 0 rfl) ?_
                                refine lv_icmp_ne (tgt := 272) hx hb dL_words_256 (by decide) (fun c256 => ?_) (fun c256 => ?_)
                                · skip
                                  exfalso
                                  exact absurd c256 (by decide)
                                · skip
                                  refine lv_aload_n hx hb dL_words_259 rfl (lv_at hl 13 rfl) ?_
                                  refine lv_iload hx hb dL_words_260 (lv_at hl 7 rfl) ?_
                                  refine lv_bipush (v := (nI 6)) hx hb dL_words_262 (by decide) ?_
                                  refine cl_VA (b := x0) (As := [.int (nI w), .int (nI 6)]) (rest := []) F hK hA hP hD hS (c_X3_word hX) (cwV 2 hts gL_words_X3_word rfl rfl rfl (by decide +kernel) ⟨Nat.le_of_ble_eq_true rfl, Nat.le_of_ble_eq_true rfl⟩) rfl rfl rfl hl.1 rfl (Nat.le_of_ble_eq_true rfl) ⟨Nat.zero_le _, Nat.zero_le _⟩ dL_words_264 (fun r264 u264 H locs hw264 hP hD hS => ?_)
                                  try dsimp only at hw264 hP hD
                                  obtain rfl : r264 = (oI (fi now w)) := by rw [hw264, wdA_j (by omega) (by decide)]; rfl
                                  refine lv_iload hx hb dL_words_267 (lv_at hl 2 rfl) ?_
                                  refine lv_icmp_eq (tgt := 274) hx hb dL_words_269 (by decide) (fun c269 => ?_) (fun c269 => ?_)
                                  · skip
                                    refine lv_iload_n hx hb dL_words_274 rfl (lv_at hl 12 rfl) ?_
                                    refine lv_iload hx hb dL_words_275 (lv_at hl 1 rfl) ?_
                                    refine lv_iadd hx hb dL_words_277 ?_
                                    refine n_as (x' := nI (vb + 0)) (nI_add _ _) ?_
                                    refine lv_istore_n (lv' := [(1, .int (nI (vb + 0))), (13, .int (nI 0)), (12, .int (nI 0)), (11, .int (oI oa)), (10, .int (nI y3)), (9, .int (nI y2)), (8, .int (nI y1)), (7, .int (nI y0)), (6, .int (nI w)), (5, .int (nI vo)), (4, .int (oI o)), (3, .int (nI vw)), (2, .int (nI vf)), (0, .ref x0)]) hx hb dL_words_278 rfl hl (by decide) rfl (fun ls hl => ?_)
                                    refine lv_iload_n hx hb dL_words_279 rfl (lv_at hl 12 rfl) ?_
                                    refine lv_iload hx hb dL_words_280 (lv_at hl 1 rfl) ?_
                                    refine lv_iadd hx hb dL_words_282 ?_
                                    refine n_as (x' := nI (vf + 0)) (nI_add _ _) ?_
                                    refine lv_istore_n (lv' := [(2, .int (nI (vf + 0))), (1, .int (nI (vb + 0))), (13, .int (nI 0)), (12, .int (nI 0)), (11, .int (oI oa)), (10, .int (nI y3)), (9, .int (nI y2)), (8, .int (nI y1)), (7, .int (nI y0)), (6, .int (nI w)), (5, .int (nI vo)), (4, .int (oI o)), (3, .int (nI vw)), (0, .ref x0)]) hx hb dL_words_283 rfl hl (by decide) rfl (fun ls hl => ?_)
                                    refine lv_iload_n hx hb dL_words_284 rfl (lv_at hl 12 rfl) ?_
                                    refine lv_iload hx hb dL_words_285 (lv_at hl 3 rfl) ?_
                                    refine lv_iload hx hb dL_words_287 (lv_at hl 2 rfl) ?_
                                    refine lv_icmp_ne (tgt := 296) hx hb dL_words_289 (by decide) (fun c289 => ?_) (fun c289 => ?_)
                                    · skip
                                      exfalso
                                      exact absurd c289 (by decide)
                                    · skip
                                      refine lv_iconst (v := (nI 0)) hx hb dL_words_292 (by decide) ?_
                                      refine lv_goto (tgt := 297) hx hb dL_words_293 (by decide) ?_
                                      refine lv_iadd hx hb dL_words_297 ?_
                                      refine n_as (x' := nI (vw + 0)) (nI_add _ _) ?_
                                      refine lv_istore_n (lv' := [(3, .int (nI (vw + 0))), (2, .int (nI (vf + 0))), (1, .int (nI (vb + 0))), (13, .int (nI 0)), (12, .int (nI 0)), (11, .int (oI oa)), (10, .int (nI y3)), (9, .int (nI y2)), (8, .int (nI y1)), (7, .int (nI y0)), (6, .int (nI w)), (5, .int (nI vo)), (4, .int (oI o)), (0, .ref x0)]) hx hb dL_words_298 rfl hl (by decide) rfl (fun ls hl => ?_)
                                      refine lv_iload hx hb dL_words_299 (lv_at hl 4 rfl) ?_
                                      refine lv_iload hx hb dL_words_301 (lv_at hl 3 rfl) ?_
                                      refine lv_icmp_eq (tgt := 316) hx hb dL_words_303 (by decide) (fun c303 => ?_) (fun c303 => ?_)
                                      · skip
                                        refine lv_iload hx hb dL_words_316 (lv_at hl 12 rfl) ?_
                                        refine lv_istore (lv' := [(4, .int (oI o)), (3, .int (nI (vw + 0))), (2, .int (nI (vf + 0))), (1, .int (nI (vb + 0))), (13, .int (nI 0)), (12, .int (nI 0)), (11, .int (oI oa)), (10, .int (nI y3)), (9, .int (nI y2)), (8, .int (nI y1)), (7, .int (nI y0)), (6, .int (nI w)), (5, .int (nI vo)), (0, .ref x0)]) hx hb dL_words_318 hl (by decide) rfl (fun ls hl => ?_)
                                        refine lv_iload hx hb dL_words_320 (lv_at hl 12 rfl) ?_
                                        refine lv_iload hx hb dL_words_322 (lv_at hl 5 rfl) ?_
                                        refine lv_iload hx hb dL_words_324 (lv_at hl 4 rfl) ?_
                                        refine lv_icmp_ne (tgt := 333) hx hb dL_words_326 (by decide) (fun c326 => ?_) (fun c326 => ?_)
                                        · skip
                                          exfalso
                                          exact absurd c326 (by decide)
                                        · skip
                                          refine lv_iconst (v := (nI 0)) hx hb dL_words_329 (by decide) ?_
                                          refine lv_goto (tgt := 335) hx hb dL_words_330 (by decide) ?_
                                          refine lv_iadd hx hb dL_words_335 ?_
                                          refine n_as (x' := nI (vo + 0)) (nI_add _ _) ?_
                                          refine lv_istore (lv' := [(5, .int (nI (vo + 0))), (4, .int (oI o)), (3, .int (nI (vw + 0))), (2, .int (nI (vf + 0))), (1, .int (nI (vb + 0))), (13, .int (nI 0)), (12, .int (nI 0)), (11, .int (oI oa)), (10, .int (nI y3)), (9, .int (nI y2)), (8, .int (nI y1)), (7, .int (nI y0)), (6, .int (nI w)), (0, .ref x0)]) hx hb dL_words_336 hl (by decide) rfl (fun ls hl => ?_)
                                          refine lv_iinc (v := (nI (w + 1))) (lv' := [(6, .int (nI (w + 1))), (5, .int (nI (vo + 0))), (4, .int (oI o)), (3, .int (nI (vw + 0))), (2, .int (nI (vf + 0))), (1, .int (nI (vb + 0))), (13, .int (nI 0)), (12, .int (nI 0)), (11, .int (oI oa)), (10, .int (nI y3)), (9, .int (nI y2)), (8, .int (nI y1)), (7, .int (nI y0)), (0, .ref x0)]) hx hb dL_words_338 hl (k := 12) rfl (n_inc1 _) (by decide) rfl (fun ls hl => ?_)
                                          refine lv_goto (tgt := 16) hx hb dL_words_341 (by decide) ?_
                                          exact ih16 (vb + 0) (vf + 0) (vw + 0) o (vo + 0) (w + 1) _ _ _ (by omega) (by rw [hvb, biN_s, hbw]; first | rw [if_pos (by decide)] | rw [if_neg (by decide)]) (by rw [hvf, fuN_s, hrt]; first | rw [if_pos (by decide)] | rw [if_neg (by decide)]) (by rw [hvw, wr_s, hbw, hrt]; first | rw [if_pos (by decide)] | rw [if_neg (by decide)]) (by rw [hvo, wr1_s, hbw, hrt]; first | rw [if_pos (by decide)] | rw [if_neg (by decide)]) (by rw [ls1_off (wr_n hbw hrt)]; exact ho) (by omega) hP hD hS (lv_sub hl [0, 1, 2, 3, 4, 5, 13] rfl)
                                      · skip
                                        exfalso
                                        exact absurd c303 (by decide)
                                  · skip
                                    exfalso
                                    exact c269 (by rw [ha])
                · skip
                  replace c162 : y0 = 0 := by rw [show (0 : Int32) = nI 0 from rfl, nI_eq (by omega) (by omega)] at c162; try exact c162
                  have hrt : rt now w = nI 1 := rt_t (by omega)
                  refine lv_iconst (v := (nI 1)) hx hb dL_words_165 (by decide) ?_
                  refine lv_goto (tgt := 170) hx hb dL_words_166 (by decide) ?_
                  refine lv_istore (lv' := [(13, .int (nI 1)), (12, .int (nI 0)), (11, .int (oI oa)), (10, .int (nI y3)), (9, .int (nI y2)), (8, .int (nI y1)), (7, .int (nI y0)), (6, .int (nI w)), (5, .int (nI vo)), (4, .int (oI o)), (3, .int (nI vw)), (2, .int (nI vf)), (1, .int (nI vb)), (0, .ref x0)]) hx hb dL_words_170 hl (by decide) rfl (fun ls hl => ?_)
                  refine lv_iload hx hb dL_words_172 (lv_at hl 6 rfl) ?_
                  refine lv_iload hx hb dL_words_174 (lv_at hl 5 rfl) ?_
                  refine lv_iadd hx hb dL_words_176 ?_
                  refine n_as (x' := nI (y0 + y1)) (nI_add _ _) ?_
                  refine lv_iload hx hb dL_words_177 (lv_at hl 4 rfl) ?_
                  refine lv_iadd hx hb dL_words_179 ?_
                  refine n_as (x' := nI ((y0 + y1) + y2)) (nI_add _ _) ?_
                  refine lv_iload hx hb dL_words_180 (lv_at hl 3 rfl) ?_
                  refine lv_iadd hx hb dL_words_182 ?_
                  refine n_as (x' := nI (((y0 + y1) + y2) + y3)) (nI_add _ _) ?_
                  refine lv_bipush (v := (nI 32)) hx hb dL_words_183 (by decide) ?_
                  refine lv_icmp_ne (tgt := 272) hx hb dL_words_185 (by decide) (fun c185 => ?_) (fun c185 => ?_)
                  · skip
                    replace c185 : ¬ (((y0 + y1) + y2) + y3) = 32 := by rw [nI_eq (by omega) (by omega)] at c185; try exact c185
                    exfalso
                    omega
                  · skip
                    replace c185 : (((y0 + y1) + y2) + y3) = 32 := by rw [nI_eq (by omega) (by omega)] at c185; try exact c185
                    refine lv_aload_n hx hb dL_words_188 rfl (lv_at hl 13 rfl) ?_
                    refine lv_iload hx hb dL_words_189 (lv_at hl 7 rfl) ?_
                    refine lv_iconst (v := (nI 0)) hx hb dL_words_191 (by decide) ?_
                    refine cl_VA (b := x0) (As := [.int (nI w), .int (nI 0)]) (rest := []) F hK hA hP hD hS (c_X3_word hX) (cwV 2 hts gL_words_X3_word rfl rfl rfl (by decide +kernel) ⟨Nat.le_of_ble_eq_true rfl, Nat.le_of_ble_eq_true rfl⟩) rfl rfl rfl hl.1 rfl (Nat.le_of_ble_eq_true rfl) ⟨Nat.zero_le _, Nat.zero_le _⟩ dL_words_192 (fun r192 u192 H locs hw192 hP hD hS => ?_)
                    try dsimp only at hw192 hP hD
                    obtain rfl : r192 = (nI (cw now w (nI 0))) := by rw [hw192, wdA_j (by omega) (by decide)]; rfl
                    refine lv_iload hx hb dL_words_195 (lv_at hl 6 rfl) ?_
                    refine lv_icmp_ne (tgt := 272) hx hb dL_words_197 (by decide) (fun c197 => ?_) (fun c197 => ?_)
                    · skip
                      replace c197 : ¬ (cw now w (nI 0)) = y0 := by rw [nI_eq (by omega) (by omega)] at c197; try exact c197
                      exfalso
                      omega
                    · skip
                      replace c197 : (cw now w (nI 0)) = y0 := by rw [nI_eq (by omega) (by omega)] at c197; try exact c197
                      refine lv_aload_n hx hb dL_words_200 rfl (lv_at hl 13 rfl) ?_
                      refine lv_iload hx hb dL_words_201 (lv_at hl 7 rfl) ?_
                      refine lv_iconst (v := (nI 1)) hx hb dL_words_203 (by decide) ?_
                      refine cl_VA (b := x0) (As := [.int (nI w), .int (nI 1)]) (rest := []) F hK hA hP hD hS (c_X3_word hX) (cwV 2 hts gL_words_X3_word rfl rfl rfl (by decide +kernel) ⟨Nat.le_of_ble_eq_true rfl, Nat.le_of_ble_eq_true rfl⟩) rfl rfl rfl hl.1 rfl (Nat.le_of_ble_eq_true rfl) ⟨Nat.zero_le _, Nat.zero_le _⟩ dL_words_204 (fun r204 u204 H locs hw204 hP hD hS => ?_)
                      try dsimp only at hw204 hP hD
                      obtain rfl : r204 = (nI (cw now w (nI 1))) := by rw [hw204, wdA_j (by omega) (by decide)]; rfl
                      refine lv_iload hx hb dL_words_207 (lv_at hl 5 rfl) ?_
                      refine lv_icmp_ne (tgt := 272) hx hb dL_words_209 (by decide) (fun c209 => ?_) (fun c209 => ?_)
                      · skip
                        replace c209 : ¬ (cw now w (nI 1)) = y1 := by rw [nI_eq (by omega) (by omega)] at c209; try exact c209
                        exfalso
                        omega
                      · skip
                        replace c209 : (cw now w (nI 1)) = y1 := by rw [nI_eq (by omega) (by omega)] at c209; try exact c209
                        refine lv_aload_n hx hb dL_words_212 rfl (lv_at hl 13 rfl) ?_
                        refine lv_iload hx hb dL_words_213 (lv_at hl 7 rfl) ?_
                        refine lv_iconst (v := (nI 2)) hx hb dL_words_215 (by decide) ?_
                        refine cl_VA (b := x0) (As := [.int (nI w), .int (nI 2)]) (rest := []) F hK hA hP hD hS (c_X3_word hX) (cwV 2 hts gL_words_X3_word rfl rfl rfl (by decide +kernel) ⟨Nat.le_of_ble_eq_true rfl, Nat.le_of_ble_eq_true rfl⟩) rfl rfl rfl hl.1 rfl (Nat.le_of_ble_eq_true rfl) ⟨Nat.zero_le _, Nat.zero_le _⟩ dL_words_216 (fun r216 u216 H locs hw216 hP hD hS => ?_)
                        try dsimp only at hw216 hP hD
                        obtain rfl : r216 = (nI (cw now w (nI 2))) := by rw [hw216, wdA_j (by omega) (by decide)]; rfl
                        refine lv_iload hx hb dL_words_219 (lv_at hl 4 rfl) ?_
                        refine lv_icmp_ne (tgt := 272) hx hb dL_words_221 (by decide) (fun c221 => ?_) (fun c221 => ?_)
                        · skip
                          replace c221 : ¬ (cw now w (nI 2)) = y2 := by rw [nI_eq (by omega) (by omega)] at c221; try exact c221
                          exfalso
                          omega
                        · skip
                          replace c221 : (cw now w (nI 2)) = y2 := by rw [nI_eq (by omega) (by omega)] at c221; try exact c221
                          refine lv_aload_n hx hb dL_words_224 rfl (lv_at hl 13 rfl) ?_
                          refine lv_iload hx hb dL_words_225 (lv_at hl 7 rfl) ?_
                          refine lv_iconst (v := (nI 3)) hx hb dL_words_227 (by decide) ?_
                          refine cl_VA (b := x0) (As := [.int (nI w), .int (nI 3)]) (rest := []) F hK hA hP hD hS (c_X3_word hX) (cwV 2 hts gL_words_X3_word rfl rfl rfl (by decide +kernel) ⟨Nat.le_of_ble_eq_true rfl, Nat.le_of_ble_eq_true rfl⟩) rfl rfl rfl hl.1 rfl (Nat.le_of_ble_eq_true rfl) ⟨Nat.zero_le _, Nat.zero_le _⟩ dL_words_228 (fun r228 u228 H locs hw228 hP hD hS => ?_)
                          try dsimp only at hw228 hP hD
                          obtain rfl : r228 = (nI (cw now w (nI 3))) := by rw [hw228, wdA_j (by omega) (by decide)]; rfl
                          refine lv_iload hx hb dL_words_231 (lv_at hl 3 rfl) ?_
                          refine lv_icmp_ne (tgt := 272) hx hb dL_words_233 (by decide) (fun c233 => ?_) (fun c233 => ?_)
                          · skip
                            replace c233 : ¬ (cw now w (nI 3)) = y3 := by rw [nI_eq (by omega) (by omega)] at c233; try exact c233
                            exfalso
                            omega
                          · skip
                            replace c233 : (cw now w (nI 3)) = y3 := by rw [nI_eq (by omega) (by omega)] at c233; try exact c233
                            refine lv_iload hx hb dL_words_236 (lv_at hl 1 rfl) ?_
                            refine lv_if_lt (tgt := 272) hx hb dL_words_238 (by decide) (fun c238 => ?_) (fun c238 => ?_)
                            · skip
                              exfalso
                              exact absurd c238 (by decide)
                            · skip
                              refine lv_iload hx hb dL_words_241 (lv_at hl 1 rfl) ?_
                              refine lv_iconst (v := (nI 1)) hx hb dL_words_243 (by decide) ?_
                              refine lv_icmp_gt (tgt := 272) hx hb dL_words_244 (by decide) (fun c244 => ?_) (fun c244 => ?_)
                              · skip
                                exfalso
                                exact absurd c244 (by decide)
                              · skip
                                refine lv_aload_n hx hb dL_words_247 rfl (lv_at hl 13 rfl) ?_
                                refine lv_iload hx hb dL_words_248 (lv_at hl 7 rfl) ?_
                                refine lv_iconst (v := (nI 5)) hx hb dL_words_250 (by decide) ?_
                                refine cl_VA (b := x0) (As := [.int (nI w), .int (nI 5)]) (rest := []) F hK hA hP hD hS (c_X3_word hX) (cwV 2 hts gL_words_X3_word rfl rfl rfl (by decide +kernel) ⟨Nat.le_of_ble_eq_true rfl, Nat.le_of_ble_eq_true rfl⟩) rfl rfl rfl hl.1 rfl (Nat.le_of_ble_eq_true rfl) ⟨Nat.zero_le _, Nat.zero_le _⟩ dL_words_251 (fun r251 u251 H locs hw251 hP hD hS => ?_)
                                try dsimp only at hw251 hP hD
                                obtain rfl : r251 = (nI 1) := by rw [hw251, wdA_j (by omega) (by decide)]; exact hrt
                                refine lv_iload hx hb dL_words_254 (lv_at hl 0 rfl) ?_
                                refine lv_icmp_ne (tgt := 272) hx hb dL_words_256 (by decide) (fun c256 => ?_) (fun c256 => ?_)
                                · skip
                                  exfalso
                                  exact absurd c256 (by decide)
                                · skip
                                  refine lv_aload_n hx hb dL_words_259 rfl (lv_at hl 13 rfl) ?_
                                  refine lv_iload hx hb dL_words_260 (lv_at hl 7 rfl) ?_
                                  refine lv_bipush (v := (nI 6)) hx hb dL_words_262 (by decide) ?_
                                  refine cl_VA (b := x0) (As := [.int (nI w), .int (nI 6)]) (rest := []) F hK hA hP hD hS (c_X3_word hX) (cwV 2 hts gL_words_X3_word rfl rfl rfl (by decide +kernel) ⟨Nat.le_of_ble_eq_true rfl, Nat.le_of_ble_eq_true rfl⟩) rfl rfl rfl hl.1 rfl (Nat.le_of_ble_eq_true rfl) ⟨Nat.zero_le _, Nat.zero_le _⟩ dL_words_264 (fun r264 u264 H locs hw264 hP hD hS => ?_)
                                  try dsimp only at hw264 hP hD
                                  obtain rfl : r264 = (oI (fi now w)) := by rw [hw264, wdA_j (by omega) (by decide)]; rfl
                                  refine lv_iload hx hb dL_words_267 (lv_at hl 2 rfl) ?_
                                  refine lv_icmp_eq (tgt := 274) hx hb dL_words_269 (by decide) (fun c269 => ?_) (fun c269 => ?_)
                                  · skip
                                    refine lv_iload_n hx hb dL_words_274 rfl (lv_at hl 12 rfl) ?_
                                    refine lv_iload hx hb dL_words_275 (lv_at hl 1 rfl) ?_
                                    refine lv_iadd hx hb dL_words_277 ?_
                                    refine n_as (x' := nI (vb + 0)) (nI_add _ _) ?_
                                    refine lv_istore_n (lv' := [(1, .int (nI (vb + 0))), (13, .int (nI 1)), (12, .int (nI 0)), (11, .int (oI oa)), (10, .int (nI y3)), (9, .int (nI y2)), (8, .int (nI y1)), (7, .int (nI y0)), (6, .int (nI w)), (5, .int (nI vo)), (4, .int (oI o)), (3, .int (nI vw)), (2, .int (nI vf)), (0, .ref x0)]) hx hb dL_words_278 rfl hl (by decide) rfl (fun ls hl => ?_)
                                    refine lv_iload_n hx hb dL_words_279 rfl (lv_at hl 12 rfl) ?_
                                    refine lv_iload hx hb dL_words_280 (lv_at hl 1 rfl) ?_
                                    refine lv_iadd hx hb dL_words_282 ?_
                                    refine n_as (x' := nI (vf + 1)) (nI_add _ _) ?_
                                    refine lv_istore_n (lv' := [(2, .int (nI (vf + 1))), (1, .int (nI (vb + 0))), (13, .int (nI 1)), (12, .int (nI 0)), (11, .int (oI oa)), (10, .int (nI y3)), (9, .int (nI y2)), (8, .int (nI y1)), (7, .int (nI y0)), (6, .int (nI w)), (5, .int (nI vo)), (4, .int (oI o)), (3, .int (nI vw)), (0, .ref x0)]) hx hb dL_words_283 rfl hl (by decide) rfl (fun ls hl => ?_)
                                    refine lv_iload_n hx hb dL_words_284 rfl (lv_at hl 12 rfl) ?_
                                    refine lv_iload hx hb dL_words_285 (lv_at hl 3 rfl) ?_
                                    refine lv_iload hx hb dL_words_287 (lv_at hl 2 rfl) ?_
                                    refine lv_icmp_ne (tgt := 296) hx hb dL_words_289 (by decide) (fun c289 => ?_) (fun c289 => ?_)
                                    · skip
                                      refine lv_iconst (v := (nI 1)) hx hb dL_words_296 (by decide) ?_
                                      refine lv_iadd hx hb dL_words_297 ?_
                                      refine n_as (x' := nI (vw + 1)) (nI_add _ _) ?_
                                      refine lv_istore_n (lv' := [(3, .int (nI (vw + 1))), (2, .int (nI (vf + 1))), (1, .int (nI (vb + 0))), (13, .int (nI 1)), (12, .int (nI 0)), (11, .int (oI oa)), (10, .int (nI y3)), (9, .int (nI y2)), (8, .int (nI y1)), (7, .int (nI y0)), (6, .int (nI w)), (5, .int (nI vo)), (4, .int (oI o)), (0, .ref x0)]) hx hb dL_words_298 rfl hl (by decide) rfl (fun ls hl => ?_)
                                      refine lv_iload hx hb dL_words_299 (lv_at hl 4 rfl) ?_
                                      refine lv_iload hx hb dL_words_301 (lv_at hl 3 rfl) ?_
                                      refine lv_icmp_eq (tgt := 316) hx hb dL_words_303 (by decide) (fun c303 => ?_) (fun c303 => ?_)
                                      · skip
                                        exfalso
                                        exact absurd c303 (by decide)
                                      · skip
                                        cases o with
                                        | none =>
                                          rw [show oI none = -9 from rfl] at hl
                                          refine lv_iload hx hb dL_words_306 (lv_at hl 12 rfl) ?_
                                          refine lv_if_ge (tgt := 316) hx hb dL_words_308 (by decide) (fun c308 => ?_) (fun c308 => ?_)
                                          · skip
                                            exfalso
                                            exact absurd c308 (by decide)
                                          · skip
                                            refine lv_iload hx hb dL_words_311 (lv_at hl 10 rfl) ?_
                                            refine lv_goto (tgt := 318) hx hb dL_words_313 (by decide) ?_
                                            refine lv_istore (lv' := [(4, .int (nI w)), (3, .int (nI (vw + 1))), (2, .int (nI (vf + 1))), (1, .int (nI (vb + 0))), (13, .int (nI 1)), (12, .int (nI 0)), (11, .int (oI oa)), (10, .int (nI y3)), (9, .int (nI y2)), (8, .int (nI y1)), (7, .int (nI y0)), (6, .int (nI w)), (5, .int (nI vo)), (0, .ref x0)]) hx hb dL_words_318 hl (by decide) rfl (fun ls hl => ?_)
                                            refine lv_iload hx hb dL_words_320 (lv_at hl 12 rfl) ?_
                                            refine lv_iload hx hb dL_words_322 (lv_at hl 5 rfl) ?_
                                            refine lv_iload hx hb dL_words_324 (lv_at hl 4 rfl) ?_
                                            refine lv_icmp_ne (tgt := 333) hx hb dL_words_326 (by decide) (fun c326 => ?_) (fun c326 => ?_)
                                            · skip
                                              refine lv_iload hx hb dL_words_333 (lv_at hl 5 rfl) ?_
                                              refine lv_iadd hx hb dL_words_335 ?_
                                              refine n_as (x' := nI (vo + 0)) (nI_add _ _) ?_
                                              refine lv_istore (lv' := [(5, .int (nI (vo + 0))), (4, .int (nI w)), (3, .int (nI (vw + 1))), (2, .int (nI (vf + 1))), (1, .int (nI (vb + 0))), (13, .int (nI 1)), (12, .int (nI 0)), (11, .int (oI oa)), (10, .int (nI y3)), (9, .int (nI y2)), (8, .int (nI y1)), (7, .int (nI y0)), (6, .int (nI w)), (0, .ref x0)]) hx hb dL_words_336 hl (by decide) rfl (fun ls hl => ?_)
                                              refine lv_iinc (v := (nI (w + 1))) (lv' := [(6, .int (nI (w + 1))), (5, .int (nI (vo + 0))), (4, .int (nI w)), (3, .int (nI (vw + 1))), (2, .int (nI (vf + 1))), (1, .int (nI (vb + 0))), (13, .int (nI 1)), (12, .int (nI 0)), (11, .int (oI oa)), (10, .int (nI y3)), (9, .int (nI y2)), (8, .int (nI y1)), (7, .int (nI y0)), (0, .ref x0)]) hx hb dL_words_338 hl (k := 12) rfl (n_inc1 _) (by decide) rfl (fun ls hl => ?_)
                                              refine lv_goto (tgt := 16) hx hb dL_words_341 (by decide) ?_
                                              exact ih16 (vb + 0) (vf + 1) (vw + 1) (some w) (vo + 0) (w + 1) _ _ _ (by omega) (by rw [hvb, biN_s, hbw]; first | rw [if_pos (by decide)] | rw [if_neg (by decide)]) (by rw [hvf, fuN_s, hrt]; first | rw [if_pos (by decide)] | rw [if_neg (by decide)]) (by rw [hvw, wr_s, hbw, hrt]; first | rw [if_pos (by decide)] | rw [if_neg (by decide)]) (by rw [hvo, wr1_s, hbw, hrt]; first | rw [if_pos (by decide)] | rw [if_neg (by decide)]) ((ls1_new ho.symm (wr_y hbw hrt (by decide))).symm) (by omega) hP hD hS (lv_sub hl [0, 1, 2, 3, 4, 5, 13] rfl)
                                            · skip
                                              exfalso
                                              exact absurd c326 (by decide)
                                        | some s1 =>
                                          rw [show oI (some s1) = nI s1 from rfl] at hl
                                          have hs1 := (ls1_some ho.symm).2.1
                                          refine lv_iload hx hb dL_words_306 (lv_at hl 12 rfl) ?_
                                          refine lv_if_ge (tgt := 316) hx hb dL_words_308 (by decide) (fun c308 => ?_) (fun c308 => ?_)
                                          · skip
                                            replace c308 : 0 ≤ s1 := by rw [show (0 : Int32) = nI 0 from rfl, nI_leI (by omega) (by omega)] at c308; try exact c308
                                            refine lv_iload hx hb dL_words_316 (lv_at hl 12 rfl) ?_
                                            refine lv_istore (lv' := [(4, .int (nI s1)), (3, .int (nI (vw + 1))), (2, .int (nI (vf + 1))), (1, .int (nI (vb + 0))), (13, .int (nI 1)), (12, .int (nI 0)), (11, .int (oI oa)), (10, .int (nI y3)), (9, .int (nI y2)), (8, .int (nI y1)), (7, .int (nI y0)), (6, .int (nI w)), (5, .int (nI vo)), (0, .ref x0)]) hx hb dL_words_318 hl (by decide) rfl (fun ls hl => ?_)
                                            refine lv_iload hx hb dL_words_320 (lv_at hl 12 rfl) ?_
                                            refine lv_iload hx hb dL_words_322 (lv_at hl 5 rfl) ?_
                                            refine lv_iload hx hb dL_words_324 (lv_at hl 4 rfl) ?_
                                            refine lv_icmp_ne (tgt := 333) hx hb dL_words_326 (by decide) (fun c326 => ?_) (fun c326 => ?_)
                                            · skip
                                              refine lv_iload hx hb dL_words_333 (lv_at hl 5 rfl) ?_
                                              refine lv_iadd hx hb dL_words_335 ?_
                                              refine n_as (x' := nI (vo + 0)) (nI_add _ _) ?_
                                              refine lv_istore (lv' := [(5, .int (nI (vo + 0))), (4, .int (nI s1)), (3, .int (nI (vw + 1))), (2, .int (nI (vf + 1))), (1, .int (nI (vb + 0))), (13, .int (nI 1)), (12, .int (nI 0)), (11, .int (oI oa)), (10, .int (nI y3)), (9, .int (nI y2)), (8, .int (nI y1)), (7, .int (nI y0)), (6, .int (nI w)), (0, .ref x0)]) hx hb dL_words_336 hl (by decide) rfl (fun ls hl => ?_)
                                              refine lv_iinc (v := (nI (w + 1))) (lv' := [(6, .int (nI (w + 1))), (5, .int (nI (vo + 0))), (4, .int (nI s1)), (3, .int (nI (vw + 1))), (2, .int (nI (vf + 1))), (1, .int (nI (vb + 0))), (13, .int (nI 1)), (12, .int (nI 0)), (11, .int (oI oa)), (10, .int (nI y3)), (9, .int (nI y2)), (8, .int (nI y1)), (7, .int (nI y0)), (0, .ref x0)]) hx hb dL_words_338 hl (k := 12) rfl (n_inc1 _) (by decide) rfl (fun ls hl => ?_)
                                              refine lv_goto (tgt := 16) hx hb dL_words_341 (by decide) ?_
                                              exact ih16 (vb + 0) (vf + 1) (vw + 1) (some s1) (vo + 0) (w + 1) _ _ _ (by omega) (by rw [hvb, biN_s, hbw]; first | rw [if_pos (by decide)] | rw [if_neg (by decide)]) (by rw [hvf, fuN_s, hrt]; first | rw [if_pos (by decide)] | rw [if_neg (by decide)]) (by rw [hvw, wr_s, hbw, hrt]; first | rw [if_pos (by decide)] | rw [if_neg (by decide)]) (by rw [hvo, wr1_s, hbw, hrt]; first | rw [if_pos (by decide)] | rw [if_neg (by decide)]) ((ls1_keep ho.symm).symm) (by omega) hP hD hS (lv_sub hl [0, 1, 2, 3, 4, 5, 13] rfl)
                                            · skip
                                              exfalso
                                              exact absurd c326 (by decide)
                                          · skip
                                            replace c308 : ¬ (0 ≤ s1) := by rw [show (0 : Int32) = nI 0 from rfl, nI_leI (by omega) (by omega)] at c308; try exact c308
                                            exfalso
                                            omega
                                    · skip
                                      exfalso
                                      exact absurd c289 (by decide)
                                  · skip
                                    exfalso
                                    exact c269 (by rw [ha])
              ·
                skip
                refine n_as (x' := nI 1) hbw ?_
                refine lv_istore (lv' := [(12, .int (nI 1)), (11, .int (oI oa)), (10, .int (nI y3)), (9, .int (nI y2)), (8, .int (nI y1)), (7, .int (nI y0)), (6, .int (nI w)), (5, .int (nI vo)), (4, .int (oI o)), (3, .int (nI vw)), (2, .int (nI vf)), (1, .int (nI vb)), (0, .ref x0)]) hx hb dL_words_158 hl (by decide) rfl (fun ls hl => ?_)
                refine lv_iload hx hb dL_words_160 (lv_at hl 5 rfl) ?_
                refine lv_if_ne (tgt := 169) hx hb dL_words_162 (by decide) (fun c162 => ?_) (fun c162 => ?_)
                · skip
                  replace c162 : ¬ y0 = 0 := by rw [show (0 : Int32) = nI 0 from rfl, nI_eq (by omega) (by omega)] at c162; try exact c162
                  have hrt : rt now w = nI 0 := rt_f (by omega)
                  refine lv_iconst (v := (nI 0)) hx hb dL_words_169 (by decide) ?_
                  refine lv_istore (lv' := [(13, .int (nI 0)), (12, .int (nI 1)), (11, .int (oI oa)), (10, .int (nI y3)), (9, .int (nI y2)), (8, .int (nI y1)), (7, .int (nI y0)), (6, .int (nI w)), (5, .int (nI vo)), (4, .int (oI o)), (3, .int (nI vw)), (2, .int (nI vf)), (1, .int (nI vb)), (0, .ref x0)]) hx hb dL_words_170 hl (by decide) rfl (fun ls hl => ?_)
                  refine lv_iload hx hb dL_words_172 (lv_at hl 6 rfl) ?_
                  refine lv_iload hx hb dL_words_174 (lv_at hl 5 rfl) ?_
                  refine lv_iadd hx hb dL_words_176 ?_
                  refine n_as (x' := nI (y0 + y1)) (nI_add _ _) ?_
                  refine lv_iload hx hb dL_words_177 (lv_at hl 4 rfl) ?_
                  refine lv_iadd hx hb dL_words_179 ?_
                  refine n_as (x' := nI ((y0 + y1) + y2)) (nI_add _ _) ?_
                  refine lv_iload hx hb dL_words_180 (lv_at hl 3 rfl) ?_
                  refine lv_iadd hx hb dL_words_182 ?_
                  refine n_as (x' := nI (((y0 + y1) + y2) + y3)) (nI_add _ _) ?_
                  refine lv_bipush (v := (nI 32)) hx hb dL_words_183 (by decide) ?_
                  refine lv_icmp_ne (tgt := 272) hx hb dL_words_185 (by decide) (fun c185 => ?_) (fun c185 => ?_)
                  · skip
                    replace c185 : ¬ (((y0 + y1) + y2) + y3) = 32 := by rw [nI_eq (by omega) (by omega)] at c185; try exact c185
                    exfalso
                    omega
                  · skip
                    replace c185 : (((y0 + y1) + y2) + y3) = 32 := by rw [nI_eq (by omega) (by omega)] at c185; try exact c185
                    refine lv_aload_n hx hb dL_words_188 rfl (lv_at hl 13 rfl) ?_
                    refine lv_iload hx hb dL_words_189 (lv_at hl 7 rfl) ?_
                    refine lv_iconst (v := (nI 0)) hx hb dL_words_191 (by decide) ?_
                    refine cl_VA (b := x0) (As := [.int (nI w), .int (nI 0)]) (rest := []) F hK hA hP hD hS (c_X3_word hX) (cwV 2 hts gL_words_X3_word rfl rfl rfl (by decide +kernel) ⟨Nat.le_of_ble_eq_true rfl, Nat.le_of_ble_eq_true rfl⟩) rfl rfl rfl hl.1 rfl (Nat.le_of_ble_eq_true rfl) ⟨Nat.zero_le _, Nat.zero_le _⟩ dL_words_192 (fun r192 u192 H locs hw192 hP hD hS => ?_)
                    try dsimp only at hw192 hP hD
                    obtain rfl : r192 = (nI (cw now w (nI 0))) := by rw [hw192, wdA_j (by omega) (by decide)]; rfl
                    refine lv_iload hx hb dL_words_195 (lv_at hl 6 rfl) ?_
                    refine lv_icmp_ne (tgt := 272) hx hb dL_words_197 (by decide) (fun c197 => ?_) (fun c197 => ?_)
                    · skip
                      replace c197 : ¬ (cw now w (nI 0)) = y0 := by rw [nI_eq (by omega) (by omega)] at c197; try exact c197
                      exfalso
                      omega
                    · skip
                      replace c197 : (cw now w (nI 0)) = y0 := by rw [nI_eq (by omega) (by omega)] at c197; try exact c197
                      refine lv_aload_n hx hb dL_words_200 rfl (lv_at hl 13 rfl) ?_
                      refine lv_iload hx hb dL_words_201 (lv_at hl 7 rfl) ?_
                      refine lv_iconst (v := (nI 1)) hx hb dL_words_203 (by decide) ?_
                      refine cl_VA (b := x0) (As := [.int (nI w), .int (nI 1)]) (rest := []) F hK hA hP hD hS (c_X3_word hX) (cwV 2 hts gL_words_X3_word rfl rfl rfl (by decide +kernel) ⟨Nat.le_of_ble_eq_true rfl, Nat.le_of_ble_eq_true rfl⟩) rfl rfl rfl hl.1 rfl (Nat.le_of_ble_eq_true rfl) ⟨Nat.zero_le _, Nat.zero_le _⟩ dL_words_204 (fun r204 u204 H locs hw204 hP hD hS => ?_)
                      try dsimp only at hw204 hP hD
                      obtain rfl : r204 = (nI (cw now w (nI 1))) := by rw [hw204, wdA_j (by omega) (by decide)]; rfl
                      refine lv_iload hx hb dL_words_207 (lv_at hl 5 rfl) ?_
                      refine lv_icmp_ne (tgt := 272) hx hb dL_words_209 (by decide) (fun c209 => ?_) (fun c209 => ?_)
                      · skip
                        replace c209 : ¬ (cw now w (nI 1)) = y1 := by rw [nI_eq (by omega) (by omega)] at c209; try exact c209
                        exfalso
                        omega
                      · skip
                        replace c209 : (cw now w (nI 1)) = y1 := by rw [nI_eq (by omega) (by omega)] at c209; try exact c209
                        refine lv_aload_n hx hb dL_words_212 rfl (lv_at hl 13 rfl) ?_
                        refine lv_iload hx hb dL_words_213 (lv_at hl 7 rfl) ?_
                        refine lv_iconst (v := (nI 2)) hx hb dL_words_215 (by decide) ?_
                        refine cl_VA (b := x0) (As := [.int (nI w), .int (nI 2)]) (rest := []) F hK hA hP hD hS (c_X3_word hX) (cwV 2 hts gL_words_X3_word rfl rfl rfl (by decide +kernel) ⟨Nat.le_of_ble_eq_true rfl, Nat.le_of_ble_eq_true rfl⟩) rfl rfl rfl hl.1 rfl (Nat.le_of_ble_eq_true rfl) ⟨Nat.zero_le _, Nat.zero_le _⟩ dL_words_216 (fun r216 u216 H locs hw216 hP hD hS => ?_)
                        try dsimp only at hw216 hP hD
                        obtain rfl : r216 = (nI (cw now w (nI 2))) := by rw [hw216, wdA_j (by omega) (by decide)]; rfl
                        refine lv_iload hx hb dL_words_219 (lv_at hl 4 rfl) ?_
                        refine lv_icmp_ne (tgt := 272) hx hb dL_words_221 (by decide) (fun c221 => ?_) (fun c221 => ?_)
                        · skip
                          replace c221 : ¬ (cw now w (nI 2)) = y2 := by rw [nI_eq (by omega) (by omega)] at c221; try exact c221
                          exfalso
                          omega
                        · skip
                          replace c221 : (cw now w (nI 2)) = y2 := by rw [nI_eq (by omega) (by omega)] at c221; try exact c221
                          refine lv_aload_n hx hb dL_words_224 rfl (lv_at hl 13 rfl) ?_
                          refine lv_iload hx hb dL_words_225 (lv_at hl 7 rfl) ?_
                          refine lv_iconst (v := (nI 3)) hx hb dL_words_227 (by decide) ?_
                          refine cl_VA (b := x0) (As := [.int (nI w), .int (nI 3)]) (rest := []) F hK hA hP hD hS (c_X3_word hX) (cwV 2 hts gL_words_X3_word rfl rfl rfl (by decide +kernel) ⟨Nat.le_of_ble_eq_true rfl, Nat.le_of_ble_eq_true rfl⟩) rfl rfl rfl hl.1 rfl (Nat.le_of_ble_eq_true rfl) ⟨Nat.zero_le _, Nat.zero_le _⟩ dL_words_228 (fun r228 u228 H locs hw228 hP hD hS => ?_)
                          try dsimp only at hw228 hP hD
                          obtain rfl : r228 = (nI (cw now w (nI 3))) := by rw [hw228, wdA_j (by omega) (by decide)]; rfl
                          refine lv_iload hx hb dL_words_231 (lv_at hl 3 rfl) ?_
                          refine lv_icmp_ne (tgt := 272) hx hb dL_words_233 (by decide) (fun c233 => ?_) (fun c233 => ?_)
                          · skip
                            replace c233 : ¬ (cw now w (nI 3)) = y3 := by rw [nI_eq (by omega) (by omega)] at c233; try exact c233
                            exfalso
                            omega
                          · skip
                            replace c233 : (cw now w (nI 3)) = y3 := by rw [nI_eq (by omega) (by omega)] at c233; try exact c233
                            refine lv_iload hx hb dL_words_236 (lv_at hl 1 rfl) ?_
                            refine lv_if_lt (tgt := 272) hx hb dL_words_238 (by decide) (fun c238 => ?_) (fun c238 => ?_)
                            · skip
                              exfalso
                              exact absurd c238 (by decide)
                            · skip
                              refine lv_iload hx hb dL_words_241 (lv_at hl 1 rfl) ?_
                              refine lv_iconst (v := (nI 1)) hx hb dL_words_243 (by decide) ?_
                              refine lv_icmp_gt (tgt := 272) hx hb dL_words_244 (by decide) (fun c244 => ?_) (fun c244 => ?_)
                              · skip
                                exfalso
                                exact absurd c244 (by decide)
                              · skip
                                refine lv_aload_n hx hb dL_words_247 rfl (lv_at hl 13 rfl) ?_
                                refine lv_iload hx hb dL_words_248 (lv_at hl 7 rfl) ?_
                                refine lv_iconst (v := (nI 5)) hx hb dL_words_250 (by decide) ?_
                                refine cl_VA (b := x0) (As := [.int (nI w), .int (nI 5)]) (rest := []) F hK hA hP hD hS (c_X3_word hX) (cwV 2 hts gL_words_X3_word rfl rfl rfl (by decide +kernel) ⟨Nat.le_of_ble_eq_true rfl, Nat.le_of_ble_eq_true rfl⟩) rfl rfl rfl hl.1 rfl (Nat.le_of_ble_eq_true rfl) ⟨Nat.zero_le _, Nat.zero_le _⟩ dL_words_251 (fun r251 u251 H locs hw251 hP hD hS => ?_)
                                try dsimp only at hw251 hP hD
                                obtain rfl : r251 = (nI 0) := by rw [hw251, wdA_j (by omega) (by decide)]; exact hrt
                                refine lv_iload hx hb dL_words_254 (lv_at hl 0 rfl) ?_
                                refine lv_icmp_ne (tgt := 272) hx hb dL_words_256 (by decide) (fun c256 => ?_) (fun c256 => ?_)
                                · skip
                                  exfalso
                                  exact absurd c256 (by decide)
                                · skip
                                  refine lv_aload_n hx hb dL_words_259 rfl (lv_at hl 13 rfl) ?_
                                  refine lv_iload hx hb dL_words_260 (lv_at hl 7 rfl) ?_
                                  refine lv_bipush (v := (nI 6)) hx hb dL_words_262 (by decide) ?_
                                  refine cl_VA (b := x0) (As := [.int (nI w), .int (nI 6)]) (rest := []) F hK hA hP hD hS (c_X3_word hX) (cwV 2 hts gL_words_X3_word rfl rfl rfl (by decide +kernel) ⟨Nat.le_of_ble_eq_true rfl, Nat.le_of_ble_eq_true rfl⟩) rfl rfl rfl hl.1 rfl (Nat.le_of_ble_eq_true rfl) ⟨Nat.zero_le _, Nat.zero_le _⟩ dL_words_264 (fun r264 u264 H locs hw264 hP hD hS => ?_)
                                  try dsimp only at hw264 hP hD
                                  obtain rfl : r264 = (oI (fi now w)) := by rw [hw264, wdA_j (by omega) (by decide)]; rfl
                                  refine lv_iload hx hb dL_words_267 (lv_at hl 2 rfl) ?_
                                  refine lv_icmp_eq (tgt := 274) hx hb dL_words_269 (by decide) (fun c269 => ?_) (fun c269 => ?_)
                                  · skip
                                    refine lv_iload_n hx hb dL_words_274 rfl (lv_at hl 12 rfl) ?_
                                    refine lv_iload hx hb dL_words_275 (lv_at hl 1 rfl) ?_
                                    refine lv_iadd hx hb dL_words_277 ?_
                                    refine n_as (x' := nI (vb + 1)) (nI_add _ _) ?_
                                    refine lv_istore_n (lv' := [(1, .int (nI (vb + 1))), (13, .int (nI 0)), (12, .int (nI 1)), (11, .int (oI oa)), (10, .int (nI y3)), (9, .int (nI y2)), (8, .int (nI y1)), (7, .int (nI y0)), (6, .int (nI w)), (5, .int (nI vo)), (4, .int (oI o)), (3, .int (nI vw)), (2, .int (nI vf)), (0, .ref x0)]) hx hb dL_words_278 rfl hl (by decide) rfl (fun ls hl => ?_)
                                    refine lv_iload_n hx hb dL_words_279 rfl (lv_at hl 12 rfl) ?_
                                    refine lv_iload hx hb dL_words_280 (lv_at hl 1 rfl) ?_
                                    refine lv_iadd hx hb dL_words_282 ?_
                                    refine n_as (x' := nI (vf + 0)) (nI_add _ _) ?_
                                    refine lv_istore_n (lv' := [(2, .int (nI (vf + 0))), (1, .int (nI (vb + 1))), (13, .int (nI 0)), (12, .int (nI 1)), (11, .int (oI oa)), (10, .int (nI y3)), (9, .int (nI y2)), (8, .int (nI y1)), (7, .int (nI y0)), (6, .int (nI w)), (5, .int (nI vo)), (4, .int (oI o)), (3, .int (nI vw)), (0, .ref x0)]) hx hb dL_words_283 rfl hl (by decide) rfl (fun ls hl => ?_)
                                    refine lv_iload_n hx hb dL_words_284 rfl (lv_at hl 12 rfl) ?_
                                    refine lv_iload hx hb dL_words_285 (lv_at hl 3 rfl) ?_
                                    refine lv_iload hx hb dL_words_287 (lv_at hl 2 rfl) ?_
                                    refine lv_icmp_ne (tgt := 296) hx hb dL_words_289 (by decide) (fun c289 => ?_) (fun c289 => ?_)
                                    · skip
                                      refine lv_iconst (v := (nI 1)) hx hb dL_words_296 (by decide) ?_
                                      refine lv_iadd hx hb dL_words_297 ?_
                                      refine n_as (x' := nI (vw + 1)) (nI_add _ _) ?_
                                      refine lv_istore_n (lv' := [(3, .int (nI (vw + 1))), (2, .int (nI (vf + 0))), (1, .int (nI (vb + 1))), (13, .int (nI 0)), (12, .int (nI 1)), (11, .int (oI oa)), (10, .int (nI y3)), (9, .int (nI y2)), (8, .int (nI y1)), (7, .int (nI y0)), (6, .int (nI w)), (5, .int (nI vo)), (4, .int (oI o)), (0, .ref x0)]) hx hb dL_words_298 rfl hl (by decide) rfl (fun ls hl => ?_)
                                      refine lv_iload hx hb dL_words_299 (lv_at hl 4 rfl) ?_
                                      refine lv_iload hx hb dL_words_301 (lv_at hl 3 rfl) ?_
                                      refine lv_icmp_eq (tgt := 316) hx hb dL_words_303 (by decide) (fun c303 => ?_) (fun c303 => ?_)
                                      · skip
                                        exfalso
                                        exact absurd c303 (by decide)
                                      · skip
                                        cases o with
                                        | none =>
                                          rw [show oI none = -9 from rfl] at hl
                                          refine lv_iload hx hb dL_words_306 (lv_at hl 12 rfl) ?_
                                          refine lv_if_ge (tgt := 316) hx hb dL_words_308 (by decide) (fun c308 => ?_) (fun c308 => ?_)
                                          · skip
                                            exfalso
                                            exact absurd c308 (by decide)
                                          · skip
                                            refine lv_iload hx hb dL_words_311 (lv_at hl 10 rfl) ?_
                                            refine lv_goto (tgt := 318) hx hb dL_words_313 (by decide) ?_
                                            refine lv_istore (lv' := [(4, .int (nI w)), (3, .int (nI (vw + 1))), (2, .int (nI (vf + 0))), (1, .int (nI (vb + 1))), (13, .int (nI 0)), (12, .int (nI 1)), (11, .int (oI oa)), (10, .int (nI y3)), (9, .int (nI y2)), (8, .int (nI y1)), (7, .int (nI y0)), (6, .int (nI w)), (5, .int (nI vo)), (0, .ref x0)]) hx hb dL_words_318 hl (by decide) rfl (fun ls hl => ?_)
                                            refine lv_iload hx hb dL_words_320 (lv_at hl 12 rfl) ?_
                                            refine lv_iload hx hb dL_words_322 (lv_at hl 5 rfl) ?_
                                            refine lv_iload hx hb dL_words_324 (lv_at hl 4 rfl) ?_
                                            refine lv_icmp_ne (tgt := 333) hx hb dL_words_326 (by decide) (fun c326 => ?_) (fun c326 => ?_)
                                            · skip
                                              refine lv_iload hx hb dL_words_333 (lv_at hl 5 rfl) ?_
                                              refine lv_iadd hx hb dL_words_335 ?_
                                              refine n_as (x' := nI (vo + 1)) (nI_add _ _) ?_
                                              refine lv_istore (lv' := [(5, .int (nI (vo + 1))), (4, .int (nI w)), (3, .int (nI (vw + 1))), (2, .int (nI (vf + 0))), (1, .int (nI (vb + 1))), (13, .int (nI 0)), (12, .int (nI 1)), (11, .int (oI oa)), (10, .int (nI y3)), (9, .int (nI y2)), (8, .int (nI y1)), (7, .int (nI y0)), (6, .int (nI w)), (0, .ref x0)]) hx hb dL_words_336 hl (by decide) rfl (fun ls hl => ?_)
                                              refine lv_iinc (v := (nI (w + 1))) (lv' := [(6, .int (nI (w + 1))), (5, .int (nI (vo + 1))), (4, .int (nI w)), (3, .int (nI (vw + 1))), (2, .int (nI (vf + 0))), (1, .int (nI (vb + 1))), (13, .int (nI 0)), (12, .int (nI 1)), (11, .int (oI oa)), (10, .int (nI y3)), (9, .int (nI y2)), (8, .int (nI y1)), (7, .int (nI y0)), (0, .ref x0)]) hx hb dL_words_338 hl (k := 12) rfl (n_inc1 _) (by decide) rfl (fun ls hl => ?_)
                                              refine lv_goto (tgt := 16) hx hb dL_words_341 (by decide) ?_
                                              exact ih16 (vb + 1) (vf + 0) (vw + 1) (some w) (vo + 1) (w + 1) _ _ _ (by omega) (by rw [hvb, biN_s, hbw]; first | rw [if_pos (by decide)] | rw [if_neg (by decide)]) (by rw [hvf, fuN_s, hrt]; first | rw [if_pos (by decide)] | rw [if_neg (by decide)]) (by rw [hvw, wr_s, hbw, hrt]; first | rw [if_pos (by decide)] | rw [if_neg (by decide)]) (by rw [hvo, wr1_s, hbw, hrt]; first | rw [if_pos (by decide)] | rw [if_neg (by decide)]) ((ls1_new ho.symm (wr_y hbw hrt (by decide))).symm) (by omega) hP hD hS (lv_sub hl [0, 1, 2, 3, 4, 5, 13] rfl)
                                            · skip
                                              exfalso
                                              exact absurd c326 (by decide)
                                        | some s1 =>
                                          rw [show oI (some s1) = nI s1 from rfl] at hl
                                          have hs1 := (ls1_some ho.symm).2.1
                                          refine lv_iload hx hb dL_words_306 (lv_at hl 12 rfl) ?_
                                          refine lv_if_ge (tgt := 316) hx hb dL_words_308 (by decide) (fun c308 => ?_) (fun c308 => ?_)
                                          · skip
                                            replace c308 : 0 ≤ s1 := by rw [show (0 : Int32) = nI 0 from rfl, nI_leI (by omega) (by omega)] at c308; try exact c308
                                            refine lv_iload hx hb dL_words_316 (lv_at hl 12 rfl) ?_
                                            refine lv_istore (lv' := [(4, .int (nI s1)), (3, .int (nI (vw + 1))), (2, .int (nI (vf + 0))), (1, .int (nI (vb + 1))), (13, .int (nI 0)), (12, .int (nI 1)), (11, .int (oI oa)), (10, .int (nI y3)), (9, .int (nI y2)), (8, .int (nI y1)), (7, .int (nI y0)), (6, .int (nI w)), (5, .int (nI vo)), (0, .ref x0)]) hx hb dL_words_318 hl (by decide) rfl (fun ls hl => ?_)
                                            refine lv_iload hx hb dL_words_320 (lv_at hl 12 rfl) ?_
                                            refine lv_iload hx hb dL_words_322 (lv_at hl 5 rfl) ?_
                                            refine lv_iload hx hb dL_words_324 (lv_at hl 4 rfl) ?_
                                            refine lv_icmp_ne (tgt := 333) hx hb dL_words_326 (by decide) (fun c326 => ?_) (fun c326 => ?_)
                                            · skip
                                              refine lv_iload hx hb dL_words_333 (lv_at hl 5 rfl) ?_
                                              refine lv_iadd hx hb dL_words_335 ?_
                                              refine n_as (x' := nI (vo + 1)) (nI_add _ _) ?_
                                              refine lv_istore (lv' := [(5, .int (nI (vo + 1))), (4, .int (nI s1)), (3, .int (nI (vw + 1))), (2, .int (nI (vf + 0))), (1, .int (nI (vb + 1))), (13, .int (nI 0)), (12, .int (nI 1)), (11, .int (oI oa)), (10, .int (nI y3)), (9, .int (nI y2)), (8, .int (nI y1)), (7, .int (nI y0)), (6, .int (nI w)), (0, .ref x0)]) hx hb dL_words_336 hl (by decide) rfl (fun ls hl => ?_)
                                              refine lv_iinc (v := (nI (w + 1))) (lv' := [(6, .int (nI (w + 1))), (5, .int (nI (vo + 1))), (4, .int (nI s1)), (3, .int (nI (vw + 1))), (2, .int (nI (vf + 0))), (1, .int (nI (vb + 1))), (13, .int (nI 0)), (12, .int (nI 1)), (11, .int (oI oa)), (10, .int (nI y3)), (9, .int (nI y2)), (8, .int (nI y1)), (7, .int (nI y0)), (0, .ref x0)]) hx hb dL_words_338 hl (k := 12) rfl (n_inc1 _) (by decide) rfl (fun ls hl => ?_)
                                              refine lv_goto (tgt := 16) hx hb dL_words_341 (by decide) ?_
                                              exact ih16 (vb + 1) (vf + 0) (vw + 1) (some s1) (vo + 1) (w + 1) _ _ _ (by omega) (by rw [hvb, biN_s, hbw]; first | rw [if_pos (by decide)] | rw [if_neg (by decide)]) (by rw [hvf, fuN_s, hrt]; first | rw [if_pos (by decide)] | rw [if_neg (by decide)]) (by rw [hvw, wr_s, hbw, hrt]; first | rw [if_pos (by decide)] | rw [if_neg (by decide)]) (by rw [hvo, wr1_s, hbw, hrt]; first | rw [if_pos (by decide)] | rw [if_neg (by decide)]) ((ls1_keep ho.symm).symm) (by omega) hP hD hS (lv_sub hl [0, 1, 2, 3, 4, 5, 13] rfl)
                                            · skip
                                              exfalso
                                              exact absurd c326 (by decide)
                                          · skip
                                            replace c308 : ¬ (0 ≤ s1) := by rw [show (0 : Int32) = nI 0 from rfl, nI_leI (by omega) (by omega)] at c308; try exact c308
                                            exfalso
                                            omega
                                    · skip
                                      exfalso
                                      exact absurd c289 (by decide)
                                  · skip
                                    exfalso
                                    exact c269 (by rw [ha])
                · skip
                  replace c162 : y0 = 0 := by rw [show (0 : Int32) = nI 0 from rfl, nI_eq (by omega) (by omega)] at c162; try exact c162
                  have hrt : rt now w = nI 1 := rt_t (by omega)
                  refine lv_iconst (v := (nI 1)) hx hb dL_words_165 (by decide) ?_
                  refine lv_goto (tgt := 170) hx hb dL_words_166 (by decide) ?_
                  refine lv_istore (lv' := [(13, .int (nI 1)), (12, .int (nI 1)), (11, .int (oI oa)), (10, .int (nI y3)), (9, .int (nI y2)), (8, .int (nI y1)), (7, .int (nI y0)), (6, .int (nI w)), (5, .int (nI vo)), (4, .int (oI o)), (3, .int (nI vw)), (2, .int (nI vf)), (1, .int (nI vb)), (0, .ref x0)]) hx hb dL_words_170 hl (by decide) rfl (fun ls hl => ?_)
                  refine lv_iload hx hb dL_words_172 (lv_at hl 6 rfl) ?_
                  refine lv_iload hx hb dL_words_174 (lv_at hl 5 rfl) ?_
                  refine lv_iadd hx hb dL_words_176 ?_
                  refine n_as (x' := nI (y0 + y1)) (nI_add _ _) ?_
                  refine lv_iload hx hb dL_words_177 (lv_at hl 4 rfl) ?_
                  refine lv_iadd hx hb dL_words_179 ?_
                  refine n_as (x' := nI ((y0 + y1) + y2)) (nI_add _ _) ?_
                  refine lv_iload hx hb dL_words_180 (lv_at hl 3 rfl) ?_
                  refine lv_iadd hx hb dL_words_182 ?_
                  refine n_as (x' := nI (((y0 + y1) + y2) + y3)) (nI_add _ _) ?_
                  refine lv_bipush (v := (nI 32)) hx hb dL_words_183 (by decide) ?_
                  refine lv_icmp_ne (tgt := 272) hx hb dL_words_185 (by decide) (fun c185 => ?_) (fun c185 => ?_)
                  · skip
                    replace c185 : ¬ (((y0 + y1) + y2) + y3) = 32 := by rw [nI_eq (by omega) (by omega)] at c185; try exact c185
                    exfalso
                    omega
                  · skip
                    replace c185 : (((y0 + y1) + y2) + y3) = 32 := by rw [nI_eq (by omega) (by omega)] at c185; try exact c185
                    refine lv_aload_n hx hb dL_words_188 rfl (lv_at hl 13 rfl) ?_
                    refine lv_iload hx hb dL_words_189 (lv_at hl 7 rfl) ?_
                    refine lv_iconst (v := (nI 0)) hx hb dL_words_191 (by decide) ?_
                    refine cl_VA (b := x0) (As := [.int (nI w), .int (nI 0)]) (rest := []) F hK hA hP hD hS (c_X3_word hX) (cwV 2 hts gL_words_X3_word rfl rfl rfl (by decide +kernel) ⟨Nat.le_of_ble_eq_true rfl, Nat.le_of_ble_eq_true rfl⟩) rfl rfl rfl hl.1 rfl (Nat.le_of_ble_eq_true rfl) ⟨Nat.zero_le _, Nat.zero_le _⟩ dL_words_192 (fun r192 u192 H locs hw192 hP hD hS => ?_)
                    try dsimp only at hw192 hP hD
                    obtain rfl : r192 = (nI (cw now w (nI 0))) := by rw [hw192, wdA_j (by omega) (by decide)]; rfl
                    refine lv_iload hx hb dL_words_195 (lv_at hl 6 rfl) ?_
                    refine lv_icmp_ne (tgt := 272) hx hb dL_words_197 (by decide) (fun c197 => ?_) (fun c197 => ?_)
                    · skip
                      replace c197 : ¬ (cw now w (nI 0)) = y0 := by rw [nI_eq (by omega) (by omega)] at c197; try exact c197
                      exfalso
                      omega
                    · skip
                      replace c197 : (cw now w (nI 0)) = y0 := by rw [nI_eq (by omega) (by omega)] at c197; try exact c197
                      refine lv_aload_n hx hb dL_words_200 rfl (lv_at hl 13 rfl) ?_
                      refine lv_iload hx hb dL_words_201 (lv_at hl 7 rfl) ?_
                      refine lv_iconst (v := (nI 1)) hx hb dL_words_203 (by decide) ?_
                      refine cl_VA (b := x0) (As := [.int (nI w), .int (nI 1)]) (rest := []) F hK hA hP hD hS (c_X3_word hX) (cwV 2 hts gL_words_X3_word rfl rfl rfl (by decide +kernel) ⟨Nat.le_of_ble_eq_true rfl, Nat.le_of_ble_eq_true rfl⟩) rfl rfl rfl hl.1 rfl (Nat.le_of_ble_eq_true rfl) ⟨Nat.zero_le _, Nat.zero_le _⟩ dL_words_204 (fun r204 u204 H locs hw204 hP hD hS => ?_)
                      try dsimp only at hw204 hP hD
                      obtain rfl : r204 = (nI (cw now w (nI 1))) := by rw [hw204, wdA_j (by omega) (by decide)]; rfl
                      refine lv_iload hx hb dL_words_207 (lv_at hl 5 rfl) ?_
                      refine lv_icmp_ne (tgt := 272) hx hb dL_words_209 (by decide) (fun c209 => ?_) (fun c209 => ?_)
                      · skip
                        replace c209 : ¬ (cw now w (nI 1)) = y1 := by rw [nI_eq (by omega) (by omega)] at c209; try exact c209
                        exfalso
                        omega
                      · skip
                        replace c209 : (cw now w (nI 1)) = y1 := by rw [nI_eq (by omega) (by omega)] at c209; try exact c209
                        refine lv_aload_n hx hb dL_words_212 rfl (lv_at hl 13 rfl) ?_
                        refine lv_iload hx hb dL_words_213 (lv_at hl 7 rfl) ?_
                        refine lv_iconst (v := (nI 2)) hx hb dL_words_215 (by decide) ?_
                        refine cl_VA (b := x0) (As := [.int (nI w), .int (nI 2)]) (rest := []) F hK hA hP hD hS (c_X3_word hX) (cwV 2 hts gL_words_X3_word rfl rfl rfl (by decide +kernel) ⟨Nat.le_of_ble_eq_true rfl, Nat.le_of_ble_eq_true rfl⟩) rfl rfl rfl hl.1 rfl (Nat.le_of_ble_eq_true rfl) ⟨Nat.zero_le _, Nat.zero_le _⟩ dL_words_216 (fun r216 u216 H locs hw216 hP hD hS => ?_)
                        try dsimp only at hw216 hP hD
                        obtain rfl : r216 = (nI (cw now w (nI 2))) := by rw [hw216, wdA_j (by omega) (by decide)]; rfl
                        refine lv_iload hx hb dL_words_219 (lv_at hl 4 rfl) ?_
                        refine lv_icmp_ne (tgt := 272) hx hb dL_words_221 (by decide) (fun c221 => ?_) (fun c221 => ?_)
                        · skip
                          replace c221 : ¬ (cw now w (nI 2)) = y2 := by rw [nI_eq (by omega) (by omega)] at c221; try exact c221
                          exfalso
                          omega
                        · skip
                          replace c221 : (cw now w (nI 2)) = y2 := by rw [nI_eq (by omega) (by omega)] at c221; try exact c221
                          refine lv_aload_n hx hb dL_words_224 rfl (lv_at hl 13 rfl) ?_
                          refine lv_iload hx hb dL_words_225 (lv_at hl 7 rfl) ?_
                          refine lv_iconst (v := (nI 3)) hx hb dL_words_227 (by decide) ?_
                          refine cl_VA (b := x0) (As := [.int (nI w), .int (nI 3)]) (rest := []) F hK hA hP hD hS (c_X3_word hX) (cwV 2 hts gL_words_X3_word rfl rfl rfl (by decide +kernel) ⟨Nat.le_of_ble_eq_true rfl, Nat.le_of_ble_eq_true rfl⟩) rfl rfl rfl hl.1 rfl (Nat.le_of_ble_eq_true rfl) ⟨Nat.zero_le _, Nat.zero_le _⟩ dL_words_228 (fun r228 u228 H locs hw228 hP hD hS => ?_)
                          try dsimp only at hw228 hP hD
                          obtain rfl : r228 = (nI (cw now w (nI 3))) := by rw [hw228, wdA_j (by omega) (by decide)]; rfl
                          refine lv_iload hx hb dL_words_231 (lv_at hl 3 rfl) ?_
                          refine lv_icmp_ne (tgt := 272) hx hb dL_words_233 (by decide) (fun c233 => ?_) (fun c233 => ?_)
                          · skip
                            replace c233 : ¬ (cw now w (nI 3)) = y3 := by rw [nI_eq (by omega) (by omega)] at c233; try exact c233
                            exfalso
                            omega
                          · skip
                            replace c233 : (cw now w (nI 3)) = y3 := by rw [nI_eq (by omega) (by omega)] at c233; try exact c233
                            refine lv_iload hx hb dL_words_236 (lv_at hl 1 rfl) ?_
                            refine lv_if_lt (tgt := 272) hx hb dL_words_238 (by decide) (fun c238 => ?_) (fun c238 => ?_)
                            · skip
                              exfalso
                              exact absurd c238 (by decide)
                            · skip
                              refine lv_iload hx hb dL_words_241 (lv_at hl 1 rfl) ?_
                              refine lv_iconst (v := (nI 1)) hx hb dL_words_243 (by decide) ?_
                              refine lv_icmp_gt (tgt := 272) hx hb dL_words_244 (by decide) (fun c244 => ?_) (fun c244 => ?_)
                              · skip
                                exfalso
                                exact absurd c244 (by decide)
                              · skip
                                refine lv_aload_n hx hb dL_words_247 rfl (lv_at hl 13 rfl) ?_
                                refine lv_iload hx hb dL_words_248 (lv_at hl 7 rfl) ?_
                                refine lv_iconst (v := (nI 5)) hx hb dL_words_250 (by decide) ?_
                                refine cl_VA (b := x0) (As := [.int (nI w), .int (nI 5)]) (rest := []) F hK hA hP hD hS (c_X3_word hX) (cwV 2 hts gL_words_X3_word rfl rfl rfl (by decide +kernel) ⟨Nat.le_of_ble_eq_true rfl, Nat.le_of_ble_eq_true rfl⟩) rfl rfl rfl hl.1 rfl (Nat.le_of_ble_eq_true rfl) ⟨Nat.zero_le _, Nat.zero_le _⟩ dL_words_251 (fun r251 u251 H locs hw251 hP hD hS => ?_)
                                try dsimp only at hw251 hP hD
                                obtain rfl : r251 = (nI 1) := by rw [hw251, wdA_j (by omega) (by decide)]; exact hrt
                                refine lv_iload hx hb dL_words_254 (lv_at hl 0 rfl) ?_
                                refine lv_icmp_ne (tgt := 272) hx hb dL_words_256 (by decide) (fun c256 => ?_) (fun c256 => ?_)
                                · skip
                                  exfalso
                                  exact absurd c256 (by decide)
                                · skip
                                  refine lv_aload_n hx hb dL_words_259 rfl (lv_at hl 13 rfl) ?_
                                  refine lv_iload hx hb dL_words_260 (lv_at hl 7 rfl) ?_
                                  refine lv_bipush (v := (nI 6)) hx hb dL_words_262 (by decide) ?_
                                  refine cl_VA (b := x0) (As := [.int (nI w), .int (nI 6)]) (rest := []) F hK hA hP hD hS (c_X3_word hX) (cwV 2 hts gL_words_X3_word rfl rfl rfl (by decide +kernel) ⟨Nat.le_of_ble_eq_true rfl, Nat.le_of_ble_eq_true rfl⟩) rfl rfl rfl hl.1 rfl (Nat.le_of_ble_eq_true rfl) ⟨Nat.zero_le _, Nat.zero_le _⟩ dL_words_264 (fun r264 u264 H locs hw264 hP hD hS => ?_)
                                  try dsimp only at hw264 hP hD
                                  obtain rfl : r264 = (oI (fi now w)) := by rw [hw264, wdA_j (by omega) (by decide)]; rfl
                                  refine lv_iload hx hb dL_words_267 (lv_at hl 2 rfl) ?_
                                  refine lv_icmp_eq (tgt := 274) hx hb dL_words_269 (by decide) (fun c269 => ?_) (fun c269 => ?_)
                                  · skip
                                    refine lv_iload_n hx hb dL_words_274 rfl (lv_at hl 12 rfl) ?_
                                    refine lv_iload hx hb dL_words_275 (lv_at hl 1 rfl) ?_
                                    refine lv_iadd hx hb dL_words_277 ?_
                                    refine n_as (x' := nI (vb + 1)) (nI_add _ _) ?_
                                    refine lv_istore_n (lv' := [(1, .int (nI (vb + 1))), (13, .int (nI 1)), (12, .int (nI 1)), (11, .int (oI oa)), (10, .int (nI y3)), (9, .int (nI y2)), (8, .int (nI y1)), (7, .int (nI y0)), (6, .int (nI w)), (5, .int (nI vo)), (4, .int (oI o)), (3, .int (nI vw)), (2, .int (nI vf)), (0, .ref x0)]) hx hb dL_words_278 rfl hl (by decide) rfl (fun ls hl => ?_)
                                    refine lv_iload_n hx hb dL_words_279 rfl (lv_at hl 12 rfl) ?_
                                    refine lv_iload hx hb dL_words_280 (lv_at hl 1 rfl) ?_
                                    refine lv_iadd hx hb dL_words_282 ?_
                                    refine n_as (x' := nI (vf + 1)) (nI_add _ _) ?_
                                    refine lv_istore_n (lv' := [(2, .int (nI (vf + 1))), (1, .int (nI (vb + 1))), (13, .int (nI 1)), (12, .int (nI 1)), (11, .int (oI oa)), (10, .int (nI y3)), (9, .int (nI y2)), (8, .int (nI y1)), (7, .int (nI y0)), (6, .int (nI w)), (5, .int (nI vo)), (4, .int (oI o)), (3, .int (nI vw)), (0, .ref x0)]) hx hb dL_words_283 rfl hl (by decide) rfl (fun ls hl => ?_)
                                    refine lv_iload_n hx hb dL_words_284 rfl (lv_at hl 12 rfl) ?_
                                    refine lv_iload hx hb dL_words_285 (lv_at hl 3 rfl) ?_
                                    refine lv_iload hx hb dL_words_287 (lv_at hl 2 rfl) ?_
                                    refine lv_icmp_ne (tgt := 296) hx hb dL_words_289 (by decide) (fun c289 => ?_) (fun c289 => ?_)
                                    · skip
                                      exfalso
                                      exact absurd c289 (by decide)
                                    · skip
                                      refine lv_iconst (v := (nI 0)) hx hb dL_words_292 (by decide) ?_
                                      refine lv_goto (tgt := 297) hx hb dL_words_293 (by decide) ?_
                                      refine lv_iadd hx hb dL_words_297 ?_
                                      refine n_as (x' := nI (vw + 0)) (nI_add _ _) ?_
                                      refine lv_istore_n (lv' := [(3, .int (nI (vw + 0))), (2, .int (nI (vf + 1))), (1, .int (nI (vb + 1))), (13, .int (nI 1)), (12, .int (nI 1)), (11, .int (oI oa)), (10, .int (nI y3)), (9, .int (nI y2)), (8, .int (nI y1)), (7, .int (nI y0)), (6, .int (nI w)), (5, .int (nI vo)), (4, .int (oI o)), (0, .ref x0)]) hx hb dL_words_298 rfl hl (by decide) rfl (fun ls hl => ?_)
                                      refine lv_iload hx hb dL_words_299 (lv_at hl 4 rfl) ?_
                                      refine lv_iload hx hb dL_words_301 (lv_at hl 3 rfl) ?_
                                      refine lv_icmp_eq (tgt := 316) hx hb dL_words_303 (by decide) (fun c303 => ?_) (fun c303 => ?_)
                                      · skip
                                        refine lv_iload hx hb dL_words_316 (lv_at hl 12 rfl) ?_
                                        refine lv_istore (lv' := [(4, .int (oI o)), (3, .int (nI (vw + 0))), (2, .int (nI (vf + 1))), (1, .int (nI (vb + 1))), (13, .int (nI 1)), (12, .int (nI 1)), (11, .int (oI oa)), (10, .int (nI y3)), (9, .int (nI y2)), (8, .int (nI y1)), (7, .int (nI y0)), (6, .int (nI w)), (5, .int (nI vo)), (0, .ref x0)]) hx hb dL_words_318 hl (by decide) rfl (fun ls hl => ?_)
                                        refine lv_iload hx hb dL_words_320 (lv_at hl 12 rfl) ?_
                                        refine lv_iload hx hb dL_words_322 (lv_at hl 5 rfl) ?_
                                        refine lv_iload hx hb dL_words_324 (lv_at hl 4 rfl) ?_
                                        refine lv_icmp_ne (tgt := 333) hx hb dL_words_326 (by decide) (fun c326 => ?_) (fun c326 => ?_)
                                        · skip
                                          exfalso
                                          exact absurd c326 (by decide)
                                        · skip
                                          refine lv_iconst (v := (nI 0)) hx hb dL_words_329 (by decide) ?_
                                          refine lv_goto (tgt := 335) hx hb dL_words_330 (by decide) ?_
                                          refine lv_iadd hx hb dL_words_335 ?_
                                          refine n_as (x' := nI (vo + 0)) (nI_add _ _) ?_
                                          refine lv_istore (lv' := [(5, .int (nI (vo + 0))), (4, .int (oI o)), (3, .int (nI (vw + 0))), (2, .int (nI (vf + 1))), (1, .int (nI (vb + 1))), (13, .int (nI 1)), (12, .int (nI 1)), (11, .int (oI oa)), (10, .int (nI y3)), (9, .int (nI y2)), (8, .int (nI y1)), (7, .int (nI y0)), (6, .int (nI w)), (0, .ref x0)]) hx hb dL_words_336 hl (by decide) rfl (fun ls hl => ?_)
                                          refine lv_iinc (v := (nI (w + 1))) (lv' := [(6, .int (nI (w + 1))), (5, .int (nI (vo + 0))), (4, .int (oI o)), (3, .int (nI (vw + 0))), (2, .int (nI (vf + 1))), (1, .int (nI (vb + 1))), (13, .int (nI 1)), (12, .int (nI 1)), (11, .int (oI oa)), (10, .int (nI y3)), (9, .int (nI y2)), (8, .int (nI y1)), (7, .int (nI y0)), (0, .ref x0)]) hx hb dL_words_338 hl (k := 12) rfl (n_inc1 _) (by decide) rfl (fun ls hl => ?_)
                                          refine lv_goto (tgt := 16) hx hb dL_words_341 (by decide) ?_
                                          exact ih16 (vb + 1) (vf + 1) (vw + 0) o (vo + 0) (w + 1) _ _ _ (by omega) (by rw [hvb, biN_s, hbw]; first | rw [if_pos (by decide)] | rw [if_neg (by decide)]) (by rw [hvf, fuN_s, hrt]; first | rw [if_pos (by decide)] | rw [if_neg (by decide)]) (by rw [hvw, wr_s, hbw, hrt]; first | rw [if_pos (by decide)] | rw [if_neg (by decide)]) (by rw [hvo, wr1_s, hbw, hrt]; first | rw [if_pos (by decide)] | rw [if_neg (by decide)]) (by rw [ls1_off (wr_n hbw hrt)]; exact ho) (by omega) hP hD hS (lv_sub hl [0, 1, 2, 3, 4, 5, 13] rfl)
                                      · skip
                                        exfalso
                                        exact absurd c303 (by decide)
                                  · skip
                                    exfalso
                                    exact c269 (by rw [ha])
            · skip
              replace c56 : ¬ n ≤ 32 * w := fun q => c56 ((dn_lt (by omega) (by omega)).mpr q)
              obtain ⟨s, rfl⟩ : ∃ s, n = s + 1 := ⟨n - 1, by omega⟩
              rw [dn_s] at hl
              refine lv_aload_n hx hb dL_words_59 rfl (lv_at hl 12 rfl) ?_
              refine lv_iload hx hb dL_words_60 (lv_at hl 0 rfl) ?_
              refine lv_iconst (v := (nI 0)) hx hb dL_words_62 (by decide) ?_
              refine cl_VA (b := x0) (As := [.int (nI s), .int (nI 0)]) (rest := []) F hK hA hP hD hS (c_X3_slot hX) (cwV 2 hts gL_words_X3_slot rfl rfl rfl (by decide +kernel) ⟨Nat.le_of_ble_eq_true rfl, Nat.le_of_ble_eq_true rfl⟩) rfl rfl rfl hl.1 rfl (Nat.le_of_ble_eq_true rfl) ⟨Nat.zero_le _, Nat.zero_le _⟩ dL_words_63 (fun r63 u63 H locs hw63 hP hD hS => ?_)
              try dsimp only at hw63 hP hD
              obtain rfl : r63 = (now s) := hw63.trans (sl0 (by omega))
              obtain ⟨kk, hkk, hks⟩ := ki s (by omega)
              rcases (show kk = 0 ∨ kk = 1 ∨ kk = 2 ∨ kk = 3 by omega) with rfl | rfl | rfl | rfl
              ·
                skip
                refine n_as (x' := nI 0) hks ?_
                refine lv_istore (lv' := [(13, .int (nI 0)), (12, .int (nI s)), (11, .int (oI oa)), (10, .int (nI y3)), (9, .int (nI y2)), (8, .int (nI y1)), (7, .int (nI y0)), (6, .int (nI w)), (5, .int (nI vo)), (4, .int (oI o)), (3, .int (nI vw)), (2, .int (nI vf)), (1, .int (nI vb)), (0, .ref x0)]) hx hb dL_words_66 hl (by decide) rfl (fun ls hl => ?_)
                refine lv_iload hx hb dL_words_68 (lv_at hl 6 rfl) ?_
                refine lv_iload hx hb dL_words_70 (lv_at hl 0 rfl) ?_
                refine lv_if_ne (tgt := 79) hx hb dL_words_72 (by decide) (fun c72 => ?_) (fun c72 => ?_)
                · skip
                  exfalso
                  exact absurd c72 (by decide)
                · skip
                  refine lv_iconst (v := (nI 1)) hx hb dL_words_75 (by decide) ?_
                  refine lv_goto (tgt := 80) hx hb dL_words_76 (by decide) ?_
                  refine lv_iadd hx hb dL_words_80 ?_
                  refine n_as (x' := nI (y0 + 1)) (nI_add _ _) ?_
                  refine lv_istore (lv' := [(7, .int (nI (y0 + 1))), (13, .int (nI 0)), (12, .int (nI s)), (11, .int (oI oa)), (10, .int (nI y3)), (9, .int (nI y2)), (8, .int (nI y1)), (6, .int (nI w)), (5, .int (nI vo)), (4, .int (oI o)), (3, .int (nI vw)), (2, .int (nI vf)), (1, .int (nI vb)), (0, .ref x0)]) hx hb dL_words_81 hl (by decide) rfl (fun ls hl => ?_)
                  refine lv_iload hx hb dL_words_83 (lv_at hl 6 rfl) ?_
                  refine lv_iload hx hb dL_words_85 (lv_at hl 1 rfl) ?_
                  refine lv_iconst (v := (nI 1)) hx hb dL_words_87 (by decide) ?_
                  refine lv_icmp_ne (tgt := 95) hx hb dL_words_88 (by decide) (fun c88 => ?_) (fun c88 => ?_)
                  · skip
                    refine lv_iconst (v := (nI 0)) hx hb dL_words_95 (by decide) ?_
                    refine lv_iadd hx hb dL_words_96 ?_
                    refine n_as (x' := nI (y1 + 0)) (nI_add _ _) ?_
                    refine lv_istore (lv' := [(8, .int (nI (y1 + 0))), (7, .int (nI (y0 + 1))), (13, .int (nI 0)), (12, .int (nI s)), (11, .int (oI oa)), (10, .int (nI y3)), (9, .int (nI y2)), (6, .int (nI w)), (5, .int (nI vo)), (4, .int (oI o)), (3, .int (nI vw)), (2, .int (nI vf)), (1, .int (nI vb)), (0, .ref x0)]) hx hb dL_words_97 hl (by decide) rfl (fun ls hl => ?_)
                    refine lv_iload hx hb dL_words_99 (lv_at hl 6 rfl) ?_
                    refine lv_iload hx hb dL_words_101 (lv_at hl 2 rfl) ?_
                    refine lv_iconst (v := (nI 2)) hx hb dL_words_103 (by decide) ?_
                    refine lv_icmp_ne (tgt := 111) hx hb dL_words_104 (by decide) (fun c104 => ?_) (fun c104 => ?_)
                    · skip
                      refine lv_iconst (v := (nI 0)) hx hb dL_words_111 (by decide) ?_
                      refine lv_iadd hx hb dL_words_112 ?_
                      refine n_as (x' := nI (y2 + 0)) (nI_add _ _) ?_
                      refine lv_istore (lv' := [(9, .int (nI (y2 + 0))), (8, .int (nI (y1 + 0))), (7, .int (nI (y0 + 1))), (13, .int (nI 0)), (12, .int (nI s)), (11, .int (oI oa)), (10, .int (nI y3)), (6, .int (nI w)), (5, .int (nI vo)), (4, .int (oI o)), (3, .int (nI vw)), (2, .int (nI vf)), (1, .int (nI vb)), (0, .ref x0)]) hx hb dL_words_113 hl (by decide) rfl (fun ls hl => ?_)
                      refine lv_iload hx hb dL_words_115 (lv_at hl 6 rfl) ?_
                      refine lv_iload hx hb dL_words_117 (lv_at hl 3 rfl) ?_
                      refine lv_iconst (v := (nI 3)) hx hb dL_words_119 (by decide) ?_
                      refine lv_icmp_ne (tgt := 127) hx hb dL_words_120 (by decide) (fun c120 => ?_) (fun c120 => ?_)
                      · skip
                        refine lv_iconst (v := (nI 0)) hx hb dL_words_127 (by decide) ?_
                        refine lv_iadd hx hb dL_words_128 ?_
                        refine n_as (x' := nI (y3 + 0)) (nI_add _ _) ?_
                        refine lv_istore (lv' := [(10, .int (nI (y3 + 0))), (9, .int (nI (y2 + 0))), (8, .int (nI (y1 + 0))), (7, .int (nI (y0 + 1))), (13, .int (nI 0)), (12, .int (nI s)), (11, .int (oI oa)), (6, .int (nI w)), (5, .int (nI vo)), (4, .int (oI o)), (3, .int (nI vw)), (2, .int (nI vf)), (1, .int (nI vb)), (0, .ref x0)]) hx hb dL_words_129 hl (by decide) rfl (fun ls hl => ?_)
                        refine lv_iload hx hb dL_words_131 (lv_at hl 4 rfl) ?_
                        refine lv_if_ne (tgt := 141) hx hb dL_words_133 (by decide) (fun c133 => ?_) (fun c133 => ?_)
                        · skip
                          exfalso
                          exact absurd c133 (by decide)
                        · skip
                          refine lv_iload hx hb dL_words_136 (lv_at hl 5 rfl) ?_
                          refine lv_goto (tgt := 143) hx hb dL_words_138 (by decide) ?_
                          refine lv_istore (lv' := [(11, .int (nI s)), (10, .int (nI (y3 + 0))), (9, .int (nI (y2 + 0))), (8, .int (nI (y1 + 0))), (7, .int (nI (y0 + 1))), (13, .int (nI 0)), (12, .int (nI s)), (6, .int (nI w)), (5, .int (nI vo)), (4, .int (oI o)), (3, .int (nI vw)), (2, .int (nI vf)), (1, .int (nI vb)), (0, .ref x0)]) hx hb dL_words_143 hl (by decide) rfl (fun ls hl => ?_)
                          refine lv_iinc (v := (dn s)) (lv' := [(12, .int (dn s)), (11, .int (nI s)), (10, .int (nI (y3 + 0))), (9, .int (nI (y2 + 0))), (8, .int (nI (y1 + 0))), (7, .int (nI (y0 + 1))), (13, .int (nI 0)), (6, .int (nI w)), (5, .int (nI vo)), (4, .int (oI o)), (3, .int (nI vw)), (2, .int (nI vf)), (1, .int (nI vb)), (0, .ref x0)]) hx hb dL_words_145 hl (k := 6) rfl (dn_d _) (by decide) rfl (fun ls hl => ?_)
                          refine lv_goto (tgt := 49) hx hb dL_words_148 (by decide) ?_
                          exact ih49 (y0 + 1) (y1 + 0) (y2 + 0) (y3 + 0) (some s) s _ _ _ (by omega) (by first | (rw [cdn_y hks (by omega)]; omega) | (rw [cdn_n hks (by decide) (by decide) (by omega) (by decide)]; omega)) (by first | (rw [cdn_y hks (by omega)]; omega) | (rw [cdn_n hks (by decide) (by decide) (by omega) (by decide)]; omega)) (by first | (rw [cdn_y hks (by omega)]; omega) | (rw [cdn_n hks (by decide) (by decide) (by omega) (by decide)]; omega)) (by first | (rw [cdn_y hks (by omega)]; omega) | (rw [cdn_n hks (by decide) (by decide) (by omega) (by decide)]; omega)) (by rw [ls1_yes (by omega) (fr_y hks)]) (by omega) hP hD hS (lv_sub hl [0, 1, 2, 3, 4, 5, 7, 8, 9, 10, 11, 12, 13] rfl)
                      · skip
                        exfalso
                        exact absurd c120 (by decide)
                    · skip
                      exfalso
                      exact absurd c104 (by decide)
                  · skip
                    exfalso
                    exact absurd c88 (by decide)
              ·
                skip
                refine n_as (x' := nI 1) hks ?_
                refine lv_istore (lv' := [(13, .int (nI 1)), (12, .int (nI s)), (11, .int (oI oa)), (10, .int (nI y3)), (9, .int (nI y2)), (8, .int (nI y1)), (7, .int (nI y0)), (6, .int (nI w)), (5, .int (nI vo)), (4, .int (oI o)), (3, .int (nI vw)), (2, .int (nI vf)), (1, .int (nI vb)), (0, .ref x0)]) hx hb dL_words_66 hl (by decide) rfl (fun ls hl => ?_)
                refine lv_iload hx hb dL_words_68 (lv_at hl 6 rfl) ?_
                refine lv_iload hx hb dL_words_70 (lv_at hl 0 rfl) ?_
                refine lv_if_ne (tgt := 79) hx hb dL_words_72 (by decide) (fun c72 => ?_) (fun c72 => ?_)
                · skip
                  refine lv_iconst (v := (nI 0)) hx hb dL_words_79 (by decide) ?_
                  refine lv_iadd hx hb dL_words_80 ?_
                  refine n_as (x' := nI (y0 + 0)) (nI_add _ _) ?_
                  refine lv_istore (lv' := [(7, .int (nI (y0 + 0))), (13, .int (nI 1)), (12, .int (nI s)), (11, .int (oI oa)), (10, .int (nI y3)), (9, .int (nI y2)), (8, .int (nI y1)), (6, .int (nI w)), (5, .int (nI vo)), (4, .int (oI o)), (3, .int (nI vw)), (2, .int (nI vf)), (1, .int (nI vb)), (0, .ref x0)]) hx hb dL_words_81 hl (by decide) rfl (fun ls hl => ?_)
                  refine lv_iload hx hb dL_words_83 (lv_at hl 6 rfl) ?_
                  refine lv_iload hx hb dL_words_85 (lv_at hl 1 rfl) ?_
                  refine lv_iconst (v := (nI 1)) hx hb dL_words_87 (by decide) ?_
                  refine lv_icmp_ne (tgt := 95) hx hb dL_words_88 (by decide) (fun c88 => ?_) (fun c88 => ?_)
                  · skip
                    exfalso
                    exact absurd c88 (by decide)
                  · skip
                    refine lv_iconst (v := (nI 1)) hx hb dL_words_91 (by decide) ?_
                    refine lv_goto (tgt := 96) hx hb dL_words_92 (by decide) ?_
                    refine lv_iadd hx hb dL_words_96 ?_
                    refine n_as (x' := nI (y1 + 1)) (nI_add _ _) ?_
                    refine lv_istore (lv' := [(8, .int (nI (y1 + 1))), (7, .int (nI (y0 + 0))), (13, .int (nI 1)), (12, .int (nI s)), (11, .int (oI oa)), (10, .int (nI y3)), (9, .int (nI y2)), (6, .int (nI w)), (5, .int (nI vo)), (4, .int (oI o)), (3, .int (nI vw)), (2, .int (nI vf)), (1, .int (nI vb)), (0, .ref x0)]) hx hb dL_words_97 hl (by decide) rfl (fun ls hl => ?_)
                    refine lv_iload hx hb dL_words_99 (lv_at hl 6 rfl) ?_
                    refine lv_iload hx hb dL_words_101 (lv_at hl 2 rfl) ?_
                    refine lv_iconst (v := (nI 2)) hx hb dL_words_103 (by decide) ?_
                    refine lv_icmp_ne (tgt := 111) hx hb dL_words_104 (by decide) (fun c104 => ?_) (fun c104 => ?_)
                    · skip
                      refine lv_iconst (v := (nI 0)) hx hb dL_words_111 (by decide) ?_
                      refine lv_iadd hx hb dL_words_112 ?_
                      refine n_as (x' := nI (y2 + 0)) (nI_add _ _) ?_
                      refine lv_istore (lv' := [(9, .int (nI (y2 + 0))), (8, .int (nI (y1 + 1))), (7, .int (nI (y0 + 0))), (13, .int (nI 1)), (12, .int (nI s)), (11, .int (oI oa)), (10, .int (nI y3)), (6, .int (nI w)), (5, .int (nI vo)), (4, .int (oI o)), (3, .int (nI vw)), (2, .int (nI vf)), (1, .int (nI vb)), (0, .ref x0)]) hx hb dL_words_113 hl (by decide) rfl (fun ls hl => ?_)
                      refine lv_iload hx hb dL_words_115 (lv_at hl 6 rfl) ?_
                      refine lv_iload hx hb dL_words_117 (lv_at hl 3 rfl) ?_
                      refine lv_iconst (v := (nI 3)) hx hb dL_words_119 (by decide) ?_
                      refine lv_icmp_ne (tgt := 127) hx hb dL_words_120 (by decide) (fun c120 => ?_) (fun c120 => ?_)
                      · skip
                        refine lv_iconst (v := (nI 0)) hx hb dL_words_127 (by decide) ?_
                        refine lv_iadd hx hb dL_words_128 ?_
                        refine n_as (x' := nI (y3 + 0)) (nI_add _ _) ?_
                        refine lv_istore (lv' := [(10, .int (nI (y3 + 0))), (9, .int (nI (y2 + 0))), (8, .int (nI (y1 + 1))), (7, .int (nI (y0 + 0))), (13, .int (nI 1)), (12, .int (nI s)), (11, .int (oI oa)), (6, .int (nI w)), (5, .int (nI vo)), (4, .int (oI o)), (3, .int (nI vw)), (2, .int (nI vf)), (1, .int (nI vb)), (0, .ref x0)]) hx hb dL_words_129 hl (by decide) rfl (fun ls hl => ?_)
                        refine lv_iload hx hb dL_words_131 (lv_at hl 4 rfl) ?_
                        refine lv_if_ne (tgt := 141) hx hb dL_words_133 (by decide) (fun c133 => ?_) (fun c133 => ?_)
                        · skip
                          refine lv_iload hx hb dL_words_141 (lv_at hl 6 rfl) ?_
                          refine lv_istore (lv' := [(11, .int (oI oa)), (10, .int (nI (y3 + 0))), (9, .int (nI (y2 + 0))), (8, .int (nI (y1 + 1))), (7, .int (nI (y0 + 0))), (13, .int (nI 1)), (12, .int (nI s)), (6, .int (nI w)), (5, .int (nI vo)), (4, .int (oI o)), (3, .int (nI vw)), (2, .int (nI vf)), (1, .int (nI vb)), (0, .ref x0)]) hx hb dL_words_143 hl (by decide) rfl (fun ls hl => ?_)
                          refine lv_iinc (v := (dn s)) (lv' := [(12, .int (dn s)), (11, .int (oI oa)), (10, .int (nI (y3 + 0))), (9, .int (nI (y2 + 0))), (8, .int (nI (y1 + 1))), (7, .int (nI (y0 + 0))), (13, .int (nI 1)), (6, .int (nI w)), (5, .int (nI vo)), (4, .int (oI o)), (3, .int (nI vw)), (2, .int (nI vf)), (1, .int (nI vb)), (0, .ref x0)]) hx hb dL_words_145 hl (k := 6) rfl (dn_d _) (by decide) rfl (fun ls hl => ?_)
                          refine lv_goto (tgt := 49) hx hb dL_words_148 (by decide) ?_
                          exact ih49 (y0 + 0) (y1 + 1) (y2 + 0) (y3 + 0) oa s _ _ _ (by omega) (by first | (rw [cdn_y hks (by omega)]; omega) | (rw [cdn_n hks (by decide) (by decide) (by omega) (by decide)]; omega)) (by first | (rw [cdn_y hks (by omega)]; omega) | (rw [cdn_n hks (by decide) (by decide) (by omega) (by decide)]; omega)) (by first | (rw [cdn_y hks (by omega)]; omega) | (rw [cdn_n hks (by decide) (by decide) (by omega) (by decide)]; omega)) (by first | (rw [cdn_y hks (by omega)]; omega) | (rw [cdn_n hks (by decide) (by decide) (by omega) (by decide)]; omega)) (by rw [ls1_no (by omega) (fr_n hks (by decide) (by decide))]; exact ha) (by omega) hP hD hS (lv_sub hl [0, 1, 2, 3, 4, 5, 7, 8, 9, 10, 11, 12, 13] rfl)
                        · skip
                          exfalso
                          exact absurd c133 (by decide)
                      · skip
                        exfalso
                        exact absurd c120 (by decide)
                    · skip
                      exfalso
                      exact absurd c104 (by decide)
                · skip
                  exfalso
                  exact absurd c72 (by decide)
              ·
                skip
                refine n_as (x' := nI 2) hks ?_
                refine lv_istore (lv' := [(13, .int (nI 2)), (12, .int (nI s)), (11, .int (oI oa)), (10, .int (nI y3)), (9, .int (nI y2)), (8, .int (nI y1)), (7, .int (nI y0)), (6, .int (nI w)), (5, .int (nI vo)), (4, .int (oI o)), (3, .int (nI vw)), (2, .int (nI vf)), (1, .int (nI vb)), (0, .ref x0)]) hx hb dL_words_66 hl (by decide) rfl (fun ls hl => ?_)
                refine lv_iload hx hb dL_words_68 (lv_at hl 6 rfl) ?_
                refine lv_iload hx hb dL_words_70 (lv_at hl 0 rfl) ?_
                refine lv_if_ne (tgt := 79) hx hb dL_words_72 (by decide) (fun c72 => ?_) (fun c72 => ?_)
                · skip
                  refine lv_iconst (v := (nI 0)) hx hb dL_words_79 (by decide) ?_
                  refine lv_iadd hx hb dL_words_80 ?_
                  refine n_as (x' := nI (y0 + 0)) (nI_add _ _) ?_
                  refine lv_istore (lv' := [(7, .int (nI (y0 + 0))), (13, .int (nI 2)), (12, .int (nI s)), (11, .int (oI oa)), (10, .int (nI y3)), (9, .int (nI y2)), (8, .int (nI y1)), (6, .int (nI w)), (5, .int (nI vo)), (4, .int (oI o)), (3, .int (nI vw)), (2, .int (nI vf)), (1, .int (nI vb)), (0, .ref x0)]) hx hb dL_words_81 hl (by decide) rfl (fun ls hl => ?_)
                  refine lv_iload hx hb dL_words_83 (lv_at hl 6 rfl) ?_
                  refine lv_iload hx hb dL_words_85 (lv_at hl 1 rfl) ?_
                  refine lv_iconst (v := (nI 1)) hx hb dL_words_87 (by decide) ?_
                  refine lv_icmp_ne (tgt := 95) hx hb dL_words_88 (by decide) (fun c88 => ?_) (fun c88 => ?_)
                  · skip
                    refine lv_iconst (v := (nI 0)) hx hb dL_words_95 (by decide) ?_
                    refine lv_iadd hx hb dL_words_96 ?_
                    refine n_as (x' := nI (y1 + 0)) (nI_add _ _) ?_
                    refine lv_istore (lv' := [(8, .int (nI (y1 + 0))), (7, .int (nI (y0 + 0))), (13, .int (nI 2)), (12, .int (nI s)), (11, .int (oI oa)), (10, .int (nI y3)), (9, .int (nI y2)), (6, .int (nI w)), (5, .int (nI vo)), (4, .int (oI o)), (3, .int (nI vw)), (2, .int (nI vf)), (1, .int (nI vb)), (0, .ref x0)]) hx hb dL_words_97 hl (by decide) rfl (fun ls hl => ?_)
                    refine lv_iload hx hb dL_words_99 (lv_at hl 6 rfl) ?_
                    refine lv_iload hx hb dL_words_101 (lv_at hl 2 rfl) ?_
                    refine lv_iconst (v := (nI 2)) hx hb dL_words_103 (by decide) ?_
                    refine lv_icmp_ne (tgt := 111) hx hb dL_words_104 (by decide) (fun c104 => ?_) (fun c104 => ?_)
                    · skip
                      exfalso
                      exact absurd c104 (by decide)
                    · skip
                      refine lv_iconst (v := (nI 1)) hx hb dL_words_107 (by decide) ?_
                      refine lv_goto (tgt := 112) hx hb dL_words_108 (by decide) ?_
                      refine lv_iadd hx hb dL_words_112 ?_
                      refine n_as (x' := nI (y2 + 1)) (nI_add _ _) ?_
                      refine lv_istore (lv' := [(9, .int (nI (y2 + 1))), (8, .int (nI (y1 + 0))), (7, .int (nI (y0 + 0))), (13, .int (nI 2)), (12, .int (nI s)), (11, .int (oI oa)), (10, .int (nI y3)), (6, .int (nI w)), (5, .int (nI vo)), (4, .int (oI o)), (3, .int (nI vw)), (2, .int (nI vf)), (1, .int (nI vb)), (0, .ref x0)]) hx hb dL_words_113 hl (by decide) rfl (fun ls hl => ?_)
                      refine lv_iload hx hb dL_words_115 (lv_at hl 6 rfl) ?_
                      refine lv_iload hx hb dL_words_117 (lv_at hl 3 rfl) ?_
                      refine lv_iconst (v := (nI 3)) hx hb dL_words_119 (by decide) ?_
                      refine lv_icmp_ne (tgt := 127) hx hb dL_words_120 (by decide) (fun c120 => ?_) (fun c120 => ?_)
                      · skip
                        refine lv_iconst (v := (nI 0)) hx hb dL_words_127 (by decide) ?_
                        refine lv_iadd hx hb dL_words_128 ?_
                        refine n_as (x' := nI (y3 + 0)) (nI_add _ _) ?_
                        refine lv_istore (lv' := [(10, .int (nI (y3 + 0))), (9, .int (nI (y2 + 1))), (8, .int (nI (y1 + 0))), (7, .int (nI (y0 + 0))), (13, .int (nI 2)), (12, .int (nI s)), (11, .int (oI oa)), (6, .int (nI w)), (5, .int (nI vo)), (4, .int (oI o)), (3, .int (nI vw)), (2, .int (nI vf)), (1, .int (nI vb)), (0, .ref x0)]) hx hb dL_words_129 hl (by decide) rfl (fun ls hl => ?_)
                        refine lv_iload hx hb dL_words_131 (lv_at hl 4 rfl) ?_
                        refine lv_if_ne (tgt := 141) hx hb dL_words_133 (by decide) (fun c133 => ?_) (fun c133 => ?_)
                        · skip
                          refine lv_iload hx hb dL_words_141 (lv_at hl 6 rfl) ?_
                          refine lv_istore (lv' := [(11, .int (oI oa)), (10, .int (nI (y3 + 0))), (9, .int (nI (y2 + 1))), (8, .int (nI (y1 + 0))), (7, .int (nI (y0 + 0))), (13, .int (nI 2)), (12, .int (nI s)), (6, .int (nI w)), (5, .int (nI vo)), (4, .int (oI o)), (3, .int (nI vw)), (2, .int (nI vf)), (1, .int (nI vb)), (0, .ref x0)]) hx hb dL_words_143 hl (by decide) rfl (fun ls hl => ?_)
                          refine lv_iinc (v := (dn s)) (lv' := [(12, .int (dn s)), (11, .int (oI oa)), (10, .int (nI (y3 + 0))), (9, .int (nI (y2 + 1))), (8, .int (nI (y1 + 0))), (7, .int (nI (y0 + 0))), (13, .int (nI 2)), (6, .int (nI w)), (5, .int (nI vo)), (4, .int (oI o)), (3, .int (nI vw)), (2, .int (nI vf)), (1, .int (nI vb)), (0, .ref x0)]) hx hb dL_words_145 hl (k := 6) rfl (dn_d _) (by decide) rfl (fun ls hl => ?_)
                          refine lv_goto (tgt := 49) hx hb dL_words_148 (by decide) ?_
                          exact ih49 (y0 + 0) (y1 + 0) (y2 + 1) (y3 + 0) oa s _ _ _ (by omega) (by first | (rw [cdn_y hks (by omega)]; omega) | (rw [cdn_n hks (by decide) (by decide) (by omega) (by decide)]; omega)) (by first | (rw [cdn_y hks (by omega)]; omega) | (rw [cdn_n hks (by decide) (by decide) (by omega) (by decide)]; omega)) (by first | (rw [cdn_y hks (by omega)]; omega) | (rw [cdn_n hks (by decide) (by decide) (by omega) (by decide)]; omega)) (by first | (rw [cdn_y hks (by omega)]; omega) | (rw [cdn_n hks (by decide) (by decide) (by omega) (by decide)]; omega)) (by rw [ls1_no (by omega) (fr_n hks (by decide) (by decide))]; exact ha) (by omega) hP hD hS (lv_sub hl [0, 1, 2, 3, 4, 5, 7, 8, 9, 10, 11, 12, 13] rfl)
                        · skip
                          exfalso
                          exact absurd c133 (by decide)
                      · skip
                        exfalso
                        exact absurd c120 (by decide)
                  · skip
                    exfalso
                    exact absurd c88 (by decide)
                · skip
                  exfalso
                  exact absurd c72 (by decide)
              ·
                skip
                refine n_as (x' := nI 3) hks ?_
                refine lv_istore (lv' := [(13, .int (nI 3)), (12, .int (nI s)), (11, .int (oI oa)), (10, .int (nI y3)), (9, .int (nI y2)), (8, .int (nI y1)), (7, .int (nI y0)), (6, .int (nI w)), (5, .int (nI vo)), (4, .int (oI o)), (3, .int (nI vw)), (2, .int (nI vf)), (1, .int (nI vb)), (0, .ref x0)]) hx hb dL_words_66 hl (by decide) rfl (fun ls hl => ?_)
                refine lv_iload hx hb dL_words_68 (lv_at hl 6 rfl) ?_
                refine lv_iload hx hb dL_words_70 (lv_at hl 0 rfl) ?_
                refine lv_if_ne (tgt := 79) hx hb dL_words_72 (by decide) (fun c72 => ?_) (fun c72 => ?_)
                · skip
                  refine lv_iconst (v := (nI 0)) hx hb dL_words_79 (by decide) ?_
                  refine lv_iadd hx hb dL_words_80 ?_
                  refine n_as (x' := nI (y0 + 0)) (nI_add _ _) ?_
                  refine lv_istore (lv' := [(7, .int (nI (y0 + 0))), (13, .int (nI 3)), (12, .int (nI s)), (11, .int (oI oa)), (10, .int (nI y3)), (9, .int (nI y2)), (8, .int (nI y1)), (6, .int (nI w)), (5, .int (nI vo)), (4, .int (oI o)), (3, .int (nI vw)), (2, .int (nI vf)), (1, .int (nI vb)), (0, .ref x0)]) hx hb dL_words_81 hl (by decide) rfl (fun ls hl => ?_)
                  refine lv_iload hx hb dL_words_83 (lv_at hl 6 rfl) ?_
                  refine lv_iload hx hb dL_words_85 (lv_at hl 1 rfl) ?_
                  refine lv_iconst (v := (nI 1)) hx hb dL_words_87 (by decide) ?_
                  refine lv_icmp_ne (tgt := 95) hx hb dL_words_88 (by decide) (fun c88 => ?_) (fun c88 => ?_)
                  · skip
                    refine lv_iconst (v := (nI 0)) hx hb dL_words_95 (by decide) ?_
                    refine lv_iadd hx hb dL_words_96 ?_
                    refine n_as (x' := nI (y1 + 0)) (nI_add _ _) ?_
                    refine lv_istore (lv' := [(8, .int (nI (y1 + 0))), (7, .int (nI (y0 + 0))), (13, .int (nI 3)), (12, .int (nI s)), (11, .int (oI oa)), (10, .int (nI y3)), (9, .int (nI y2)), (6, .int (nI w)), (5, .int (nI vo)), (4, .int (oI o)), (3, .int (nI vw)), (2, .int (nI vf)), (1, .int (nI vb)), (0, .ref x0)]) hx hb dL_words_97 hl (by decide) rfl (fun ls hl => ?_)
                    refine lv_iload hx hb dL_words_99 (lv_at hl 6 rfl) ?_
                    refine lv_iload hx hb dL_words_101 (lv_at hl 2 rfl) ?_
                    refine lv_iconst (v := (nI 2)) hx hb dL_words_103 (by decide) ?_
                    refine lv_icmp_ne (tgt := 111) hx hb dL_words_104 (by decide) (fun c104 => ?_) (fun c104 => ?_)
                    · skip
                      refine lv_iconst (v := (nI 0)) hx hb dL_words_111 (by decide) ?_
                      refine lv_iadd hx hb dL_words_112 ?_
                      refine n_as (x' := nI (y2 + 0)) (nI_add _ _) ?_
                      refine lv_istore (lv' := [(9, .int (nI (y2 + 0))), (8, .int (nI (y1 + 0))), (7, .int (nI (y0 + 0))), (13, .int (nI 3)), (12, .int (nI s)), (11, .int (oI oa)), (10, .int (nI y3)), (6, .int (nI w)), (5, .int (nI vo)), (4, .int (oI o)), (3, .int (nI vw)), (2, .int (nI vf)), (1, .int (nI vb)), (0, .ref x0)]) hx hb dL_words_113 hl (by decide) rfl (fun ls hl => ?_)
                      refine lv_iload hx hb dL_words_115 (lv_at hl 6 rfl) ?_
                      refine lv_iload hx hb dL_words_117 (lv_at hl 3 rfl) ?_
                      refine lv_iconst (v := (nI 3)) hx hb dL_words_119 (by decide) ?_
                      refine lv_icmp_ne (tgt := 127) hx hb dL_words_120 (by decide) (fun c120 => ?_) (fun c120 => ?_)
                      · skip
                        exfalso
                        exact absurd c120 (by decide)
                      · skip
                        refine lv_iconst (v := (nI 1)) hx hb dL_words_123 (by decide) ?_
                        refine lv_goto (tgt := 128) hx hb dL_words_124 (by decide) ?_
                        refine lv_iadd hx hb dL_words_128 ?_
                        refine n_as (x' := nI (y3 + 1)) (nI_add _ _) ?_
                        refine lv_istore (lv' := [(10, .int (nI (y3 + 1))), (9, .int (nI (y2 + 0))), (8, .int (nI (y1 + 0))), (7, .int (nI (y0 + 0))), (13, .int (nI 3)), (12, .int (nI s)), (11, .int (oI oa)), (6, .int (nI w)), (5, .int (nI vo)), (4, .int (oI o)), (3, .int (nI vw)), (2, .int (nI vf)), (1, .int (nI vb)), (0, .ref x0)]) hx hb dL_words_129 hl (by decide) rfl (fun ls hl => ?_)
                        refine lv_iload hx hb dL_words_131 (lv_at hl 4 rfl) ?_
                        refine lv_if_ne (tgt := 141) hx hb dL_words_133 (by decide) (fun c133 => ?_) (fun c133 => ?_)
                        · skip
                          refine lv_iload hx hb dL_words_141 (lv_at hl 6 rfl) ?_
                          refine lv_istore (lv' := [(11, .int (oI oa)), (10, .int (nI (y3 + 1))), (9, .int (nI (y2 + 0))), (8, .int (nI (y1 + 0))), (7, .int (nI (y0 + 0))), (13, .int (nI 3)), (12, .int (nI s)), (6, .int (nI w)), (5, .int (nI vo)), (4, .int (oI o)), (3, .int (nI vw)), (2, .int (nI vf)), (1, .int (nI vb)), (0, .ref x0)]) hx hb dL_words_143 hl (by decide) rfl (fun ls hl => ?_)
                          refine lv_iinc (v := (dn s)) (lv' := [(12, .int (dn s)), (11, .int (oI oa)), (10, .int (nI (y3 + 1))), (9, .int (nI (y2 + 0))), (8, .int (nI (y1 + 0))), (7, .int (nI (y0 + 0))), (13, .int (nI 3)), (6, .int (nI w)), (5, .int (nI vo)), (4, .int (oI o)), (3, .int (nI vw)), (2, .int (nI vf)), (1, .int (nI vb)), (0, .ref x0)]) hx hb dL_words_145 hl (k := 6) rfl (dn_d _) (by decide) rfl (fun ls hl => ?_)
                          refine lv_goto (tgt := 49) hx hb dL_words_148 (by decide) ?_
                          exact ih49 (y0 + 0) (y1 + 0) (y2 + 0) (y3 + 1) oa s _ _ _ (by omega) (by first | (rw [cdn_y hks (by omega)]; omega) | (rw [cdn_n hks (by decide) (by decide) (by omega) (by decide)]; omega)) (by first | (rw [cdn_y hks (by omega)]; omega) | (rw [cdn_n hks (by decide) (by decide) (by omega) (by decide)]; omega)) (by first | (rw [cdn_y hks (by omega)]; omega) | (rw [cdn_n hks (by decide) (by decide) (by omega) (by decide)]; omega)) (by first | (rw [cdn_y hks (by omega)]; omega) | (rw [cdn_n hks (by decide) (by decide) (by omega) (by decide)]; omega)) (by rw [ls1_no (by omega) (fr_n hks (by decide) (by decide))]; exact ha) (by omega) hP hD hS (lv_sub hl [0, 1, 2, 3, 4, 5, 7, 8, 9, 10, 11, 12, 13] rfl)
                        · skip
                          exfalso
                          exact absurd c133 (by decide)
                    · skip
                      exfalso
                      exact absurd c104 (by decide)
                  · skip
                    exfalso
                    exact absurd c88 (by decide)
                · skip
                  exfalso
                  exact absurd c72 (by decide)
        rw [show nI (32 * w + 31) = dn (32 * w + 32) from (dn_s _).symm] at hl
        exact LP49 _ 0 0 0 0 none (32 * w + 32) _ _ _ (by omega) (cdn_0.symm) (cdn_0.symm) (cdn_0.symm) (cdn_0.symm) (by rw [Nat.sub_self]; rfl) (Nat.lt_succ_self _) hP hD hS (lv_sub hl [0, 1, 2, 3, 4, 5, 6, 7, 8, 9, 10, 11, 12] rfl)
  exact LP16 _ 0 0 0 none 0 0 _ _ _ (by omega) (rfl) (rfl) (rfl) (rfl) (rfl) (Nat.lt_succ_self _) hP hD hS (lv_sub hl [0, 1, 2, 3, 4, 5, 6] rfl)
