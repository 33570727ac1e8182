set_option maxHeartbeats 40000000 in
set_option maxRecDepth 100000 in
theorem c_L_takes {l : Launch} {D : va_G} {cI cG cC cR : ClassId} {aa : Nat → Nat → Nat} {x0 x1 x2 pp tt tl on k : Nat} {pf : Nat → Nat} {VV : Nat → Nat → Nat → Int32} {TV : Nat → Nat → Int32} {tex now past : Nat → Int32} (hX : XI now past k on VV) (htl : tl ≤ 80) : CtI l yL_takes wsL_takes { frames := 8, cells := 0, slots := 0, locals := 186 } D (TY cI cG cC cR) [.ref x0] (XW aa x0 x1 x2 pp tt cI cG cC cR VV TV tex pf tl on k) (fun (u : (Nat → Nat → Nat → Int32) × Nat × (Nat → Nat → Int32) × (Nat → Int32) × (Nat → Nat) × (Nat → Int32) × Nat) => XW aa x0 x1 x2 pp tt cI cG cC cR u.1 u.2.2.1 u.2.2.2.1 u.2.2.2.2.1 0 u.2.1 u.2.2.2.2.2.2) (fun (r : Int32) (u : (Nat → Nat → Nat → Int32) × Nat × (Nat → Nat → Int32) × (Nat → Int32) × (Nat → Nat) × (Nat → Int32) × Nat) => r = nI 1 ∧ XI now u.2.2.2.2.2.1 u.2.2.2.2.2.2 u.2.1 u.1) := by
  refine CtI.of (cc := cL_takes) (maxL := 10) (ty := .boolean) (by decide) rfl (Nat.le_of_ble_eq_true rfl) ?_
  intro P0 e0 s0 m0 a0 b0 t0 c0 A0 Q0 ls F hK hP hD hA RETN hl
  obtain ⟨hx, hb, hml, hown, hts⟩ := id F
  have hS : va_S A0 s0.heap s0.heap [] := va_S.rf
  have hl : lv_has ls 10 [(0, .ref x0)] := hl
  obtain ⟨hon, hk5, R, hI, hH⟩ := id hX
  obtain ⟨ki, kb, kB, kz, ko⟩ := id hI
  have hr3 := reach_320 ki
  have hlz1 := tot_le3 now (nI 2)
  have hlz2 := tot_le3 (tk now).2 (nI 2)
  rcases tk3 now with htk | ⟨sl, q, htk, hq1, hq2, hq3, hsl, hg1, hr1, hcl, hfs⟩ | ⟨sl, q, htk, hq1, hq2, hq3, hsl, hg1, hr1, hcl, hlz⟩
  ·
    skip
    have hr0 := tk_none htk
    refine lv_aload_n hx hb dL_takes_0 rfl (lv_at hl 0 rfl) ?_
    refine lv_iconst (v := (nI 0)) hx hb dL_takes_1 (by decide) ?_
    refine cl_VA (b := x0) (As := [.int (nI 0)]) (rest := []) F hK hA hP hD hS (c_X3_next hX) (cwV 1 hts gL_takes_X3_next rfl rfl rfl (by decide +kernel) ⟨Nat.le_of_ble_eq_true rfl, Nat.le_of_ble_eq_true rfl⟩) rfl rfl rfl hl.1 rfl (Nat.le_of_ble_eq_true rfl) ⟨Nat.zero_le _, Nat.zero_le _⟩ dL_takes_2 (fun r2 u2 H locs hw2 hP hD hS => ?_)
    try dsimp only at hw2 hP hD
    obtain rfl : r2 = (-9) := hw2.trans (nxA_0 (by decide) htk)
    refine lv_istore_n (lv' := [(1, .int (-9)), (0, .ref x0)]) hx hb dL_takes_5 rfl hl (by decide) rfl (fun ls hl => ?_)
    refine lv_aload_n hx hb dL_takes_6 rfl (lv_at hl 1 rfl) ?_
    refine lv_iconst (v := (nI 1)) hx hb dL_takes_7 (by decide) ?_
    refine cl_VA (b := x0) (As := [.int (nI 1)]) (rest := []) F hK hA hP hD hS (c_X3_next hX) (cwV 1 hts gL_takes_X3_next rfl rfl rfl (by decide +kernel) ⟨Nat.le_of_ble_eq_true rfl, Nat.le_of_ble_eq_true rfl⟩) rfl rfl rfl hl.1 rfl (Nat.le_of_ble_eq_true rfl) ⟨Nat.zero_le _, Nat.zero_le _⟩ dL_takes_8 (fun r8 u8 H locs hw8 hP hD hS => ?_)
    try dsimp only at hw8 hP hD
    obtain rfl : r8 = (-9) := hw8.trans (nxA_0 (by decide) htk)
    refine lv_istore_n (lv' := [(2, .int (-9)), (1, .int (-9)), (0, .ref x0)]) hx hb dL_takes_11 rfl hl (by decide) rfl (fun ls hl => ?_)
    refine lv_aload_n hx hb dL_takes_12 rfl (lv_at hl 2 rfl) ?_
    refine lv_iconst (v := (nI 2)) hx hb dL_takes_13 (by decide) ?_
    refine cl_VA (b := x0) (As := [.int (nI 2)]) (rest := []) F hK hA hP hD hS (c_X3_next hX) (cwV 1 hts gL_takes_X3_next rfl rfl rfl (by decide +kernel) ⟨Nat.le_of_ble_eq_true rfl, Nat.le_of_ble_eq_true rfl⟩) rfl rfl rfl hl.1 rfl (Nat.le_of_ble_eq_true rfl) ⟨Nat.zero_le _, Nat.zero_le _⟩ dL_takes_14 (fun r14 u14 H locs hw14 hP hD hS => ?_)
    try dsimp only at hw14 hP hD
    obtain rfl : r14 = (-9) := hw14.trans (nxA_0 (by decide) htk)
    refine lv_istore_n (lv' := [(3, .int (-9)), (2, .int (-9)), (1, .int (-9)), (0, .ref x0)]) hx hb dL_takes_17 rfl hl (by decide) rfl (fun ls hl => ?_)
    refine lv_aload_n hx hb dL_takes_18 rfl (lv_at hl 3 rfl) ?_
    refine cl_VA (b := x0) (As := []) (rest := []) F hK hA hP hD hS (c_X3_takes hX) (cwV 0 hts gL_takes_X3_takes rfl rfl rfl (by decide +kernel) ⟨Nat.le_of_ble_eq_true rfl, Nat.le_of_ble_eq_true rfl⟩) rfl rfl rfl hl.1 rfl (Nat.le_of_ble_eq_true rfl) ⟨Nat.zero_le _, Nat.zero_le _⟩ dL_takes_19 (fun r19 u19 H locs hw19 hP hD hS => ?_)
    try dsimp only at hw19 hP hD
    obtain rfl : r19 = (nI (reach now)) := hw19
    refine lv_istore (lv' := [(4, .int (nI (reach now))), (3, .int (-9)), (2, .int (-9)), (1, .int (-9)), (0, .ref x0)]) hx hb dL_takes_22 hl (by decide) rfl (fun ls hl => ?_)
    refine lv_aload_n hx hb dL_takes_24 rfl (lv_at hl 4 rfl) ?_
    refine lv_iconst (v := (nI 5)) hx hb dL_takes_25 (by decide) ?_
    refine cl_VA (b := x0) (As := [.int (nI 5)]) (rest := []) F hK hA hP hD hS (c_X3_count hX) (cwV 1 hts gL_takes_X3_count rfl rfl rfl (by decide +kernel) ⟨Nat.le_of_ble_eq_true rfl, Nat.le_of_ble_eq_true rfl⟩) rfl rfl rfl hl.1 rfl (Nat.le_of_ble_eq_true rfl) ⟨Nat.zero_le _, Nat.zero_le _⟩ dL_takes_26 (fun r26 u26 H locs hw26 hP hD hS => ?_)
    try dsimp only at hw26 hP hD
    obtain rfl : r26 = (now 666) := by rw [hw26, ctA_j (by decide)]; rfl
    refine lv_istore (lv' := [(5, .int (now 666)), (4, .int (nI (reach now))), (3, .int (-9)), (2, .int (-9)), (1, .int (-9)), (0, .ref x0)]) hx hb dL_takes_29 hl (by decide) rfl (fun ls hl => ?_)
    refine lv_aload_n hx hb dL_takes_31 rfl (lv_at hl 5 rfl) ?_
    refine lv_iconst (v := (nI 2)) hx hb dL_takes_32 (by decide) ?_
    refine cl_VA (b := x0) (As := [.int (nI 2)]) (rest := []) F hK hA hP hD hS (c_X3_count hX) (cwV 1 hts gL_takes_X3_count rfl rfl rfl (by decide +kernel) ⟨Nat.le_of_ble_eq_true rfl, Nat.le_of_ble_eq_true rfl⟩) rfl rfl rfl hl.1 rfl (Nat.le_of_ble_eq_true rfl) ⟨Nat.zero_le _, Nat.zero_le _⟩ dL_takes_33 (fun r33 u33 H locs hw33 hP hD hS => ?_)
    try dsimp only at hw33 hP hD
    obtain rfl : r33 = (nI (tot now (nI 2))) := by rw [hw33, ctA_j (by decide)]; rfl
    refine lv_istore (lv' := [(6, .int (nI (tot now (nI 2)))), (5, .int (now 666)), (4, .int (nI (reach now))), (3, .int (-9)), (2, .int (-9)), (1, .int (-9)), (0, .ref x0)]) hx hb dL_takes_36 hl (by decide) rfl (fun ls hl => ?_)
    refine lv_aload_n hx hb dL_takes_38 rfl (lv_at hl 6 rfl) ?_
    refine cl_SL (As := [.ref x0]) (rest := []) F hK hA hP hD hS (c_L_mark hX) (va_cwS 1 hts gL_takes_L_mark rfl rfl rfl (by decide +kernel) ⟨Nat.le_of_ble_eq_true rfl, Nat.le_of_ble_eq_true rfl⟩) rfl hl.1 rfl (Nat.le_of_ble_eq_true rfl) ⟨Nat.zero_le _, Nat.zero_le _⟩ dL_takes_39 (fun r39 u39 H locs hw39 hP hD hS => ?_)
    try dsimp only at hw39 hP hD
    obtain rfl : r39 = (mkF now) := hw39
    refine lv_lstore (lv' := [(7, .long (mkF now)), (6, .int (nI (tot now (nI 2)))), (5, .int (now 666)), (4, .int (nI (reach now))), (3, .int (-9)), (2, .int (-9)), (1, .int (-9)), (0, .ref x0)]) hx hb dL_takes_42 hl (by decide) rfl (fun ls hl => ?_)
    refine lv_aload_n hx hb dL_takes_44 rfl (lv_at hl 7 rfl) ?_
    refine cl_VA (b := x0) (As := []) (rest := []) F hK hA hP hD hS (c_X3_clearText htl) (cwV 0 hts gL_takes_X3_clearText rfl rfl rfl (by decide +kernel) ⟨Nat.le_of_ble_eq_true rfl, Nat.le_of_ble_eq_true rfl⟩) rfl rfl rfl hl.1 rfl (Nat.le_of_ble_eq_true rfl) ⟨Nat.zero_le _, Nat.zero_le _⟩ dL_takes_45 (fun r45 u45 H locs hw45 hP hD hS => ?_)
    try dsimp only at hw45 hP hD
    obtain rfl : r45 = (nI tl) := hw45
    refine lv_istore (lv' := [(9, .int (nI tl)), (7, .long (mkF now)), (6, .int (nI (tot now (nI 2)))), (5, .int (now 666)), (4, .int (nI (reach now))), (3, .int (-9)), (2, .int (-9)), (1, .int (-9)), (0, .ref x0)]) hx hb dL_takes_48 hl (by decide) rfl (fun ls hl => ?_)
    refine lv_iload_n hx hb dL_takes_50 rfl (lv_at hl 7 rfl) ?_
    refine lv_if_ge (tgt := 107) hx hb dL_takes_51 (by decide) (fun c51 => ?_) (fun c51 => ?_)
    · skip
      exfalso
      exact absurd c51 (by decide)
    · skip
      refine lv_iload_n hx hb dL_takes_54 rfl (lv_at hl 7 rfl) ?_
      refine lv_bipush (v := (-9)) hx hb dL_takes_55 (by decide) ?_
      refine lv_icmp_ne (tgt := 105) hx hb dL_takes_57 (by decide) (fun c57 => ?_) (fun c57 => ?_)
      · skip
        exfalso
        exact absurd rfl c57
      · skip
        refine lv_iload_n hx hb dL_takes_60 rfl (lv_at hl 6 rfl) ?_
        refine lv_bipush (v := (-9)) hx hb dL_takes_61 (by decide) ?_
        refine lv_icmp_ne (tgt := 105) hx hb dL_takes_63 (by decide) (fun c63 => ?_) (fun c63 => ?_)
        · skip
          exfalso
          exact absurd rfl c63
        · skip
          refine lv_iload_n hx hb dL_takes_66 rfl (lv_at hl 5 rfl) ?_
          refine lv_bipush (v := (-9)) hx hb dL_takes_67 (by decide) ?_
          refine lv_icmp_ne (tgt := 105) hx hb dL_takes_69 (by decide) (fun c69 => ?_) (fun c69 => ?_)
          · skip
            exfalso
            exact absurd rfl c69
          · skip
            refine lv_iload hx hb dL_takes_72 (lv_at hl 4 rfl) ?_
            refine lv_if_ne (tgt := 105) hx hb dL_takes_74 (by decide) (fun c74 => ?_) (fun c74 => ?_)
            · skip
              replace c74 : ¬ (reach now) = 0 := by rw [show (0 : Int32) = nI 0 from rfl, nI_eq (by omega) (by omega)] at c74; try exact c74
              exfalso
              omega
            · skip
              replace c74 : (reach now) = 0 := by rw [show (0 : Int32) = nI 0 from rfl, nI_eq (by omega) (by omega)] at c74; try exact c74
              refine lv_iload hx hb dL_takes_77 (lv_at hl 0 rfl) ?_
              refine lv_if_lt (tgt := 105) hx hb dL_takes_79 (by decide) (fun c79 => ?_) (fun c79 => ?_)
              · skip
                replace c79 : tl < 0 := by rw [show (0 : Int32) = nI 0 from rfl, nI_ltI (by omega) (by omega)] at c79; try exact c79
                exfalso
                omega
              · skip
                replace c79 : ¬ (tl < 0) := by rw [show (0 : Int32) = nI 0 from rfl, nI_ltI (by omega) (by omega)] at c79; try exact c79
                refine lv_aload_n hx hb dL_takes_82 rfl (lv_at hl 8 rfl) ?_
                refine cl_VA (b := x0) (As := []) (rest := []) F hK hA hP hD hS (cf_take hX (by rw [tkA_0 htk]; decide)) (cwV 0 hts gL_takes_X3_take rfl rfl rfl (by decide +kernel) ⟨Nat.le_of_ble_eq_true rfl, Nat.le_of_ble_eq_true rfl⟩) rfl rfl rfl hl.1 rfl (Nat.le_of_ble_eq_true rfl) ⟨Nat.zero_le _, Nat.zero_le _⟩ dL_takes_83 (fun r83 u83 H locs hw83 hP hD hS => ?_)
                try dsimp only at hw83 hP hD
                obtain rfl : r83 = (-3) := hw83.1.trans (tkA_0 htk)
                have hX83 := hw83.2
                refine lv_bipush (v := (-3)) hx hb dL_takes_86 (by decide) ?_
                refine lv_icmp_ne (tgt := 105) hx hb dL_takes_88 (by decide) (fun c88 => ?_) (fun c88 => ?_)
                · skip
                  exfalso
                  exact absurd rfl c88
                · skip
                  refine lv_aload_n hx hb dL_takes_91 rfl (lv_at hl 8 rfl) ?_
                  refine cl_SL (As := [.ref x0]) (rest := []) F hK hA hP hD hS (c_L_mark hX83) (va_cwS 1 hts gL_takes_L_mark rfl rfl rfl (by decide +kernel) ⟨Nat.le_of_ble_eq_true rfl, Nat.le_of_ble_eq_true rfl⟩) rfl hl.1 rfl (Nat.le_of_ble_eq_true rfl) ⟨Nat.zero_le _, Nat.zero_le _⟩ dL_takes_92 (fun r92 u92 H locs hw92 hP hD hS => ?_)
                  try dsimp only at hw92 hP hD
                  obtain rfl : r92 = (mkF now) := hw92
                  refine lv_lload hx hb dL_takes_95 (lv_at hl 1 rfl) ?_
                  refine W.lcmp hx hb dL_takes_97 ?_
                  refine n_lcmp0 ?_
                  refine lv_if_ne (tgt := 105) hx hb dL_takes_98 (by decide) (fun c98 => ?_) (fun c98 => ?_)
                  · skip
                    exfalso
                    exact absurd c98 (by decide)
                  · skip
                    refine lv_iconst (v := (nI 1)) hx hb dL_takes_101 (by decide) ?_
                    refine lv_goto (tgt := 106) hx hb dL_takes_102 (by decide) ?_
                    exact RETN _ _ (nI 1) (u83.1, u83.2, u14, tex, pf, past, k) _ _ dL_takes_106 rfl (⟨rfl, hX83⟩) hP hD hS
  ·
    skip
    refine lv_aload_n hx hb dL_takes_0 rfl (lv_at hl 0 rfl) ?_
    refine lv_iconst (v := (nI 0)) hx hb dL_takes_1 (by decide) ?_
    refine cl_VA (b := x0) (As := [.int (nI 0)]) (rest := []) F hK hA hP hD hS (c_X3_next hX) (cwV 1 hts gL_takes_X3_next rfl rfl rfl (by decide +kernel) ⟨Nat.le_of_ble_eq_true rfl, Nat.le_of_ble_eq_true rfl⟩) rfl rfl rfl hl.1 rfl (Nat.le_of_ble_eq_true rfl) ⟨Nat.zero_le _, Nat.zero_le _⟩ dL_takes_2 (fun r2 u2 H locs hw2 hP hD hS => ?_)
    try dsimp only at hw2 hP hD
    obtain rfl : r2 = (nI sl) := by rw [hw2, nxA_j (by decide) htk]; rfl
    refine lv_istore_n (lv' := [(1, .int (nI sl)), (0, .ref x0)]) hx hb dL_takes_5 rfl hl (by decide) rfl (fun ls hl => ?_)
    refine lv_aload_n hx hb dL_takes_6 rfl (lv_at hl 1 rfl) ?_
    refine lv_iconst (v := (nI 1)) hx hb dL_takes_7 (by decide) ?_
    refine cl_VA (b := x0) (As := [.int (nI 1)]) (rest := []) F hK hA hP hD hS (c_X3_next hX) (cwV 1 hts gL_takes_X3_next rfl rfl rfl (by decide +kernel) ⟨Nat.le_of_ble_eq_true rfl, Nat.le_of_ble_eq_true rfl⟩) rfl rfl rfl hl.1 rfl (Nat.le_of_ble_eq_true rfl) ⟨Nat.zero_le _, Nat.zero_le _⟩ dL_takes_8 (fun r8 u8 H locs hw8 hP hD hS => ?_)
    try dsimp only at hw8 hP hD
    obtain rfl : r8 = (nI q) := by rw [hw8, nxA_j (by decide) htk]; exact looks_q hq3
    refine lv_istore_n (lv' := [(2, .int (nI q)), (1, .int (nI sl)), (0, .ref x0)]) hx hb dL_takes_11 rfl hl (by decide) rfl (fun ls hl => ?_)
    refine lv_aload_n hx hb dL_takes_12 rfl (lv_at hl 2 rfl) ?_
    refine lv_iconst (v := (nI 2)) hx hb dL_takes_13 (by decide) ?_
    refine cl_VA (b := x0) (As := [.int (nI 2)]) (rest := []) F hK hA hP hD hS (c_X3_next hX) (cwV 1 hts gL_takes_X3_next rfl rfl rfl (by decide +kernel) ⟨Nat.le_of_ble_eq_true rfl, Nat.le_of_ble_eq_true rfl⟩) rfl rfl rfl hl.1 rfl (Nat.le_of_ble_eq_true rfl) ⟨Nat.zero_le _, Nat.zero_le _⟩ dL_takes_14 (fun r14 u14 H locs hw14 hP hD hS => ?_)
    try dsimp only at hw14 hP hD
    obtain rfl : r14 = (nI 0) := by rw [hw14, nxA_j (by decide) htk, if_neg (by decide), if_neg (by decide)]; exact if_neg (by omega)
    refine lv_istore_n (lv' := [(3, .int (nI 0)), (2, .int (nI q)), (1, .int (nI sl)), (0, .ref x0)]) hx hb dL_takes_17 rfl hl (by decide) rfl (fun ls hl => ?_)
    refine lv_aload_n hx hb dL_takes_18 rfl (lv_at hl 3 rfl) ?_
    refine cl_VA (b := x0) (As := []) (rest := []) F hK hA hP hD hS (c_X3_takes hX) (cwV 0 hts gL_takes_X3_takes rfl rfl rfl (by decide +kernel) ⟨Nat.le_of_ble_eq_true rfl, Nat.le_of_ble_eq_true rfl⟩) rfl rfl rfl hl.1 rfl (Nat.le_of_ble_eq_true rfl) ⟨Nat.zero_le _, Nat.zero_le _⟩ dL_takes_19 (fun r19 u19 H locs hw19 hP hD hS => ?_)
    try dsimp only at hw19 hP hD
    obtain rfl : r19 = (nI (reach now)) := hw19
    refine lv_istore (lv' := [(4, .int (nI (reach now))), (3, .int (nI 0)), (2, .int (nI q)), (1, .int (nI sl)), (0, .ref x0)]) hx hb dL_takes_22 hl (by decide) rfl (fun ls hl => ?_)
    refine lv_aload_n hx hb dL_takes_24 rfl (lv_at hl 4 rfl) ?_
    refine lv_iconst (v := (nI 5)) hx hb dL_takes_25 (by decide) ?_
    refine cl_VA (b := x0) (As := [.int (nI 5)]) (rest := []) F hK hA hP hD hS (c_X3_count hX) (cwV 1 hts gL_takes_X3_count rfl rfl rfl (by decide +kernel) ⟨Nat.le_of_ble_eq_true rfl, Nat.le_of_ble_eq_true rfl⟩) rfl rfl rfl hl.1 rfl (Nat.le_of_ble_eq_true rfl) ⟨Nat.zero_le _, Nat.zero_le _⟩ dL_takes_26 (fun r26 u26 H locs hw26 hP hD hS => ?_)
    try dsimp only at hw26 hP hD
    obtain rfl : r26 = (now 666) := by rw [hw26, ctA_j (by decide)]; rfl
    refine lv_istore (lv' := [(5, .int (now 666)), (4, .int (nI (reach now))), (3, .int (nI 0)), (2, .int (nI q)), (1, .int (nI sl)), (0, .ref x0)]) hx hb dL_takes_29 hl (by decide) rfl (fun ls hl => ?_)
    refine lv_aload_n hx hb dL_takes_31 rfl (lv_at hl 5 rfl) ?_
    refine lv_iconst (v := (nI 2)) hx hb dL_takes_32 (by decide) ?_
    refine cl_VA (b := x0) (As := [.int (nI 2)]) (rest := []) F hK hA hP hD hS (c_X3_count hX) (cwV 1 hts gL_takes_X3_count rfl rfl rfl (by decide +kernel) ⟨Nat.le_of_ble_eq_true rfl, Nat.le_of_ble_eq_true rfl⟩) rfl rfl rfl hl.1 rfl (Nat.le_of_ble_eq_true rfl) ⟨Nat.zero_le _, Nat.zero_le _⟩ dL_takes_33 (fun r33 u33 H locs hw33 hP hD hS => ?_)
    try dsimp only at hw33 hP hD
    obtain rfl : r33 = (nI (tot now (nI 2))) := by rw [hw33, ctA_j (by decide)]; rfl
    refine lv_istore (lv' := [(6, .int (nI (tot now (nI 2)))), (5, .int (now 666)), (4, .int (nI (reach now))), (3, .int (nI 0)), (2, .int (nI q)), (1, .int (nI sl)), (0, .ref x0)]) hx hb dL_takes_36 hl (by decide) rfl (fun ls hl => ?_)
    refine lv_aload_n hx hb dL_takes_38 rfl (lv_at hl 6 rfl) ?_
    refine cl_SL (As := [.ref x0]) (rest := []) F hK hA hP hD hS (c_L_mark hX) (va_cwS 1 hts gL_takes_L_mark rfl rfl rfl (by decide +kernel) ⟨Nat.le_of_ble_eq_true rfl, Nat.le_of_ble_eq_true rfl⟩) rfl hl.1 rfl (Nat.le_of_ble_eq_true rfl) ⟨Nat.zero_le _, Nat.zero_le _⟩ dL_takes_39 (fun r39 u39 H locs hw39 hP hD hS => ?_)
    try dsimp only at hw39 hP hD
    obtain rfl : r39 = (mkF now) := hw39
    refine lv_lstore (lv' := [(7, .long (mkF now)), (6, .int (nI (tot now (nI 2)))), (5, .int (now 666)), (4, .int (nI (reach now))), (3, .int (nI 0)), (2, .int (nI q)), (1, .int (nI sl)), (0, .ref x0)]) hx hb dL_takes_42 hl (by decide) rfl (fun ls hl => ?_)
    refine lv_aload_n hx hb dL_takes_44 rfl (lv_at hl 7 rfl) ?_
    refine cl_VA (b := x0) (As := []) (rest := []) F hK hA hP hD hS (c_X3_clearText htl) (cwV 0 hts gL_takes_X3_clearText rfl rfl rfl (by decide +kernel) ⟨Nat.le_of_ble_eq_true rfl, Nat.le_of_ble_eq_true rfl⟩) rfl rfl rfl hl.1 rfl (Nat.le_of_ble_eq_true rfl) ⟨Nat.zero_le _, Nat.zero_le _⟩ dL_takes_45 (fun r45 u45 H locs hw45 hP hD hS => ?_)
    try dsimp only at hw45 hP hD
    obtain rfl : r45 = (nI tl) := hw45
    refine lv_istore (lv' := [(9, .int (nI tl)), (7, .long (mkF now)), (6, .int (nI (tot now (nI 2)))), (5, .int (now 666)), (4, .int (nI (reach now))), (3, .int (nI 0)), (2, .int (nI q)), (1, .int (nI sl)), (0, .ref x0)]) hx hb dL_takes_48 hl (by decide) rfl (fun ls hl => ?_)
    refine lv_iload_n hx hb dL_takes_50 rfl (lv_at hl 7 rfl) ?_
    refine lv_if_ge (tgt := 107) hx hb dL_takes_51 (by decide) (fun c51 => ?_) (fun c51 => ?_)
    · skip
      replace c51 : 0 ≤ sl := by rw [show (0 : Int32) = nI 0 from rfl, nI_leI (by omega) (by omega)] at c51; try exact c51
      refine lv_iload hx hb dL_takes_107 (lv_at hl 4 rfl) ?_
      refine lv_iconst (v := (nI 1)) hx hb dL_takes_109 (by decide) ?_
      refine lv_icmp_lt (tgt := 224) hx hb dL_takes_110 (by decide) (fun c110 => ?_) (fun c110 => ?_)
      · skip
        replace c110 : (reach now) < 1 := by rw [nI_ltI (by omega) (by omega)] at c110; try exact c110
        exfalso
        omega
      · skip
        replace c110 : ¬ ((reach now) < 1) := by rw [nI_ltI (by omega) (by omega)] at c110; try exact c110
        refine lv_aload_n hx hb dL_takes_113 rfl (lv_at hl 8 rfl) ?_
        refine lv_iload_n hx hb dL_takes_114 rfl (lv_at hl 7 rfl) ?_
        refine lv_iconst (v := (nI 0)) hx hb dL_takes_115 (by decide) ?_
        refine cl_VA (b := x0) (As := [.int (nI sl), .int (nI 0)]) (rest := []) F hK hA hP hD hS (c_X3_slot hX) (cwV 2 hts gL_takes_X3_slot rfl rfl rfl (by decide +kernel) ⟨Nat.le_of_ble_eq_true rfl, Nat.le_of_ble_eq_true rfl⟩) rfl rfl rfl hl.1 rfl (Nat.le_of_ble_eq_true rfl) ⟨Nat.zero_le _, Nat.zero_le _⟩ dL_takes_116 (fun r116 u116 H locs hw116 hP hD hS => ?_)
        try dsimp only at hw116 hP hD
        obtain rfl : r116 = (nI 0) := hw116.trans ((sl0 hsl).trans hfs)
        refine lv_if_eq (tgt := 126) hx hb dL_takes_119 (by decide) (fun c119 => ?_) (fun c119 => ?_)
        · skip
          refine lv_aload_n hx hb dL_takes_126 rfl (lv_at hl 8 rfl) ?_
          refine cl_VA (b := x0) (As := []) (rest := []) F hK hA hP hD hS (cs_take hX (by rw [tkA_s htk]; exact nI_pos (by omega))) (cwV 0 hts gL_takes_X3_take rfl rfl rfl (by decide +kernel) ⟨Nat.le_of_ble_eq_true rfl, Nat.le_of_ble_eq_true rfl⟩) rfl rfl rfl hl.1 rfl (Nat.le_of_ble_eq_true rfl) ⟨Nat.zero_le _, Nat.zero_le _⟩ dL_takes_127 (fun r127 u127 H locs hw127 hP hD hS => ?_)
          try dsimp only at hw127 hP hD
          obtain rfl : r127 = (nI sl) := hw127.1.trans (tkA_s htk)
          have hX127 : XI (tk now).2 (psh past k now) (kpK k) u127.2 u127.1 := hw127.2
          have hkk := kpK_5 hk5
          refine lv_iload_n hx hb dL_takes_130 rfl (lv_at hl 7 rfl) ?_
          refine lv_icmp_ne (tgt := 224) hx hb dL_takes_131 (by decide) (fun c131 => ?_) (fun c131 => ?_)
          · skip
            replace c131 : ¬ sl = sl := by rw [nI_eq (by omega) (by omega)] at c131; try exact c131
            exfalso
            exact absurd rfl c131
          · skip
            replace c131 : sl = sl := by rw [nI_eq (by omega) (by omega)] at c131; try exact c131
            refine lv_aload_n hx hb dL_takes_134 rfl (lv_at hl 8 rfl) ?_
            refine lv_iconst (v := (nI 5)) hx hb dL_takes_135 (by decide) ?_
            refine cl_VA (b := x0) (As := [.int (nI 5)]) (rest := []) F hK hA hP hD hS (c_X3_count hX127) (cwV 1 hts gL_takes_X3_count rfl rfl rfl (by decide +kernel) ⟨Nat.le_of_ble_eq_true rfl, Nat.le_of_ble_eq_true rfl⟩) rfl rfl rfl hl.1 rfl (Nat.le_of_ble_eq_true rfl) ⟨Nat.zero_le _, Nat.zero_le _⟩ dL_takes_136 (fun r136 u136 H locs hw136 hP hD hS => ?_)
            try dsimp only at hw136 hP hD
            obtain rfl : r136 = ((tk now).2 666) := by rw [hw136, ctA_j (by decide)]; rfl
            refine lv_iload hx hb dL_takes_139 (lv_at hl 3 rfl) ?_
            refine lv_iload_n hx hb dL_takes_141 rfl (lv_at hl 6 rfl) ?_
            refine lv_iadd hx hb dL_takes_142 ?_
            refine lv_icmp_ne (tgt := 224) hx hb dL_takes_143 (by decide) (fun c143 => ?_) (fun c143 => ?_)
            · skip
              exfalso
              exact c143 hq3
            · skip
              refine lv_iload_n hx hb dL_takes_146 rfl (lv_at hl 6 rfl) ?_
              refine lv_iconst (v := (nI 1)) hx hb dL_takes_147 (by decide) ?_
              refine lv_icmp_lt (tgt := 224) hx hb dL_takes_148 (by decide) (fun c148 => ?_) (fun c148 => ?_)
              · skip
                replace c148 : q < 1 := by rw [nI_ltI (by omega) (by omega)] at c148; try exact c148
                exfalso
                omega
              · skip
                replace c148 : ¬ (q < 1) := by rw [nI_ltI (by omega) (by omega)] at c148; try exact c148
                refine lv_iload_n hx hb dL_takes_151 rfl (lv_at hl 6 rfl) ?_
                refine lv_bipush (v := (nI 20)) hx hb dL_takes_152 (by decide) ?_
                refine lv_icmp_gt (tgt := 224) hx hb dL_takes_154 (by decide) (fun c154 => ?_) (fun c154 => ?_)
                · skip
                  replace c154 : 20 < q := by rw [nI_ltI (by omega) (by omega)] at c154; try exact c154
                  exfalso
                  omega
                · skip
                  replace c154 : ¬ (20 < q) := by rw [nI_ltI (by omega) (by omega)] at c154; try exact c154
                  refine lv_aload_n hx hb dL_takes_157 rfl (lv_at hl 8 rfl) ?_
                  refine lv_iload_n hx hb dL_takes_158 rfl (lv_at hl 7 rfl) ?_
                  refine lv_iconst (v := (nI 0)) hx hb dL_takes_159 (by decide) ?_
                  refine cl_VA (b := x0) (As := [.int (nI sl), .int (nI 0)]) (rest := []) F hK hA hP hD hS (c_X3_slot hX127) (cwV 2 hts gL_takes_X3_slot rfl rfl rfl (by decide +kernel) ⟨Nat.le_of_ble_eq_true rfl, Nat.le_of_ble_eq_true rfl⟩) rfl rfl rfl hl.1 rfl (Nat.le_of_ble_eq_true rfl) ⟨Nat.zero_le _, Nat.zero_le _⟩ dL_takes_160 (fun r160 u160 H locs hw160 hP hD hS => ?_)
                  try dsimp only at hw160 hP hD
                  obtain rfl : r160 = (nI 1) := hw160.trans ((sl0 hsl).trans hg1)
                  refine lv_iconst (v := (nI 1)) hx hb dL_takes_163 (by decide) ?_
                  refine lv_icmp_ne (tgt := 224) hx hb dL_takes_164 (by decide) (fun c164 => ?_) (fun c164 => ?_)
                  · skip
                    exfalso
                    exact absurd c164 (by decide)
                  · skip
                    refine lv_aload_n hx hb dL_takes_167 rfl (lv_at hl 8 rfl) ?_
                    refine lv_iconst (v := (nI 2)) hx hb dL_takes_168 (by decide) ?_
                    refine cl_VA (b := x0) (As := [.int (nI 2)]) (rest := []) F hK hA hP hD hS (c_X3_count hX127) (cwV 1 hts gL_takes_X3_count rfl rfl rfl (by decide +kernel) ⟨Nat.le_of_ble_eq_true rfl, Nat.le_of_ble_eq_true rfl⟩) rfl rfl rfl hl.1 rfl (Nat.le_of_ble_eq_true rfl) ⟨Nat.zero_le _, Nat.zero_le _⟩ dL_takes_169 (fun r169 u169 H locs hw169 hP hD hS => ?_)
                    try dsimp only at hw169 hP hD
                    obtain rfl : r169 = (nI (tot (tk now).2 (nI 2))) := by rw [hw169, ctA_j (by decide)]; rfl
                    refine lv_iload_n hx hb dL_takes_172 rfl (lv_at hl 5 rfl) ?_
                    refine lv_iconst (v := (nI 1)) hx hb dL_takes_173 (by decide) ?_
                    refine lv_icmp_ne (tgt := 181) hx hb dL_takes_174 (by decide) (fun c174 => ?_) (fun c174 => ?_)
                    · skip
                      refine lv_iload hx hb dL_takes_181 (lv_at hl 2 rfl) ?_
                      refine lv_icmp_ne (tgt := 224) hx hb dL_takes_183 (by decide) (fun c183 => ?_) (fun c183 => ?_)
                      · skip
                        replace c183 : ¬ (tot (tk now).2 (nI 2)) = (tot now (nI 2)) := by rw [nI_eq (by omega) (by omega)] at c183; try exact c183
                        exfalso
                        omega
                      · skip
                        replace c183 : (tot (tk now).2 (nI 2)) = (tot now (nI 2)) := by rw [nI_eq (by omega) (by omega)] at c183; try exact c183
                        refine lv_iload_n hx hb dL_takes_186 rfl (lv_at hl 5 rfl) ?_
                        refine lv_iconst (v := (nI 1)) hx hb dL_takes_187 (by decide) ?_
                        refine lv_icmp_ne (tgt := 196) hx hb dL_takes_188 (by decide) (fun c188 => ?_) (fun c188 => ?_)
                        · skip
                          refine lv_aload_n hx hb dL_takes_196 rfl (lv_at hl 8 rfl) ?_
                          refine cl_VA (b := x0) (As := []) (rest := []) F hK hA hP hD hS (c_X3_takes hX127) (cwV 0 hts gL_takes_X3_takes rfl rfl rfl (by decide +kernel) ⟨Nat.le_of_ble_eq_true rfl, Nat.le_of_ble_eq_true rfl⟩) rfl rfl rfl hl.1 rfl (Nat.le_of_ble_eq_true rfl) ⟨Nat.zero_le _, Nat.zero_le _⟩ dL_takes_197 (fun r197 u197 H locs hw197 hP hD hS => ?_)
                          try dsimp only at hw197 hP hD
                          obtain rfl : r197 = (nI (reach (tk now).2)) := hw197
                          refine lv_iload hx hb dL_takes_200 (lv_at hl 4 rfl) ?_
                          refine lv_iconst (v := (nI 1)) hx hb dL_takes_202 (by decide) ?_
                          refine lv_isub hx hb dL_takes_203 ?_
                          refine n_as (x' := nI ((reach now) - 1)) (pk_sub (by omega)) ?_
                          refine lv_icmp_ne (tgt := 224) hx hb dL_takes_204 (by decide) (fun c204 => ?_) (fun c204 => ?_)
                          · skip
                            replace c204 : ¬ (reach (tk now).2) = ((reach now) - 1) := by rw [nI_eq (by omega) (by omega)] at c204; try exact c204
                            exfalso
                            omega
                          · skip
                            replace c204 : (reach (tk now).2) = ((reach now) - 1) := by rw [nI_eq (by omega) (by omega)] at c204; try exact c204
                            refine lv_aload_n hx hb dL_takes_207 rfl (lv_at hl 8 rfl) ?_
                            refine cl_VA (b := x0) (As := []) (rest := []) F hK hA hP hD hS (c_X3_undo hX127) (cwV 0 hts gL_takes_X3_undo rfl rfl rfl (by decide +kernel) ⟨Nat.le_of_ble_eq_true rfl, Nat.le_of_ble_eq_true rfl⟩) rfl rfl rfl hl.1 rfl (Nat.le_of_ble_eq_true rfl) ⟨Nat.zero_le _, Nat.zero_le _⟩ dL_takes_208 (fun r208 u208 H locs hw208 hP hD hS => ?_)
                            try dsimp only at hw208 hP hD
                            have hX208 : XI now (psh past k now) (kpK k - 1) u127.2 (rlV u127.1 u127.2 (kpK k)) := XI_cong (fun j hj => un_back hk5 hj) hw208.2
                            obtain ⟨k2, hk2⟩ : ∃ z9, z9 = kpK k - 1 := ⟨_, rfl⟩
                            obtain ⟨p2, hp2⟩ : ∃ z9, z9 = psh past k now := ⟨_, rfl⟩
                            have hres208 := hw208.1
                            rw [← hk2] at hP hD hX208
                            rw [← hp2] at hX208
                            have hk5_k2 : k2 ≤ 5 := hX208.2.1
                            obtain rfl : r208 = (nI (kpK k - 1)) := hw208.1.trans (unA_k hk5)
                            refine lv_if_lt (tgt := 224) hx hb dL_takes_211 (by decide) (fun c211 => ?_) (fun c211 => ?_)
                            · skip
                              replace c211 : (kpK k - 1) < 0 := by rw [show (0 : Int32) = nI 0 from rfl, nI_ltI (by omega) (by omega)] at c211; try exact c211
                              exfalso
                              omega
                            · skip
                              replace c211 : ¬ ((kpK k - 1) < 0) := by rw [show (0 : Int32) = nI 0 from rfl, nI_ltI (by omega) (by omega)] at c211; try exact c211
                              refine lv_aload_n hx hb dL_takes_214 rfl (lv_at hl 8 rfl) ?_
                              refine cl_SL (As := [.ref x0]) (rest := []) F hK hA hP hD hS (c_L_mark hX208) (va_cwS 1 hts gL_takes_L_mark rfl rfl rfl (by decide +kernel) ⟨Nat.le_of_ble_eq_true rfl, Nat.le_of_ble_eq_true rfl⟩) rfl hl.1 rfl (Nat.le_of_ble_eq_true rfl) ⟨Nat.zero_le _, Nat.zero_le _⟩ dL_takes_215 (fun r215 u215 H locs hw215 hP hD hS => ?_)
                              try dsimp only at hw215 hP hD
                              obtain rfl : r215 = (mkF now) := hw215
                              refine lv_lload hx hb dL_takes_218 (lv_at hl 1 rfl) ?_
                              refine W.lcmp hx hb dL_takes_220 ?_
                              refine n_lcmp0 ?_
                              refine lv_if_eq (tgt := 226) hx hb dL_takes_221 (by decide) (fun c221 => ?_) (fun c221 => ?_)
                              · skip
                                refine lv_aload_n hx hb dL_takes_226 rfl (lv_at hl 8 rfl) ?_
                                refine lv_iload hx hb dL_takes_227 (lv_at hl 4 rfl) ?_
                                refine cl_SA (As := [.ref x0, .int (nI (reach now))]) (rest := []) F hK hA hP hD hS (c_L_types (by omega) (by omega)) (va_cwS 2 hts gL_takes_L_types rfl rfl rfl (by decide +kernel) ⟨Nat.le_of_ble_eq_true rfl, Nat.le_of_ble_eq_true rfl⟩) rfl hl.1 rfl (Nat.le_of_ble_eq_true rfl) ⟨Nat.zero_le _, Nat.zero_le _⟩ dL_takes_229 (fun r229 u229 H locs hw229 hP hD hS => ?_)
                                try dsimp only at hw229 hP hD
                                obtain rfl : r229 = (nI 1) := hw229.1
                                have hT1 := hw229.2
                                have hT1p := ty_pos hT1
                                have hT1q : u229.2 ≤ 80 := hT1.1
                                refine lv_if_eq (tgt := 277) hx hb dL_takes_232 (by decide) (fun c232 => ?_) (fun c232 => ?_)
                                · skip
                                  exfalso
                                  exact absurd c232 (by decide)
                                · skip
                                  refine lv_aload_n hx hb dL_takes_235 rfl (lv_at hl 8 rfl) ?_
                                  have hm := tm_all (f := now) (by omega) (by omega)
                                  have hrn := ty_run (f := now) hT1 hm.1
                                  refine cl_VA (b := x0) (As := []) (rest := []) F hK hA hP hD hS (cs_run hX208 hT1.1 hT1.2.1 (by rw [hrn]; exact nI_pos (by decide))) (cwV 0 hts gL_takes_X3_run rfl rfl rfl (by decide +kernel) ⟨Nat.le_of_ble_eq_true rfl, Nat.le_of_ble_eq_true rfl⟩) rfl rfl rfl hl.1 rfl (Nat.le_of_ble_eq_true rfl) ⟨Nat.zero_le _, Nat.zero_le _⟩ dL_takes_236 (fun r236 u236 H locs hw236 hP hD hS => ?_)
                                  try dsimp only at hw236 hP hD
                                  obtain rfl : r236 = (nI 1) := hw236.1.trans (congrArg Prod.fst hrn)
                                  have hX236 : XI (tmA now (nI (reach now))).2 (psh p2 k2 now) (kpK k2) u236.2.1 u236.1 := by have q9 := hw236.2; rw [hrn] at q9; exact q9
                                  have hkk2 := kpK_5 hk5_k2
                                  refine lv_iconst (v := (nI 1)) hx hb dL_takes_239 (by decide) ?_
                                  refine lv_icmp_ne (tgt := 277) hx hb dL_takes_240 (by decide) (fun c240 => ?_) (fun c240 => ?_)
                                  · skip
                                    exfalso
                                    exact absurd c240 (by decide)
                                  · skip
                                    refine lv_aload_n hx hb dL_takes_243 rfl (lv_at hl 8 rfl) ?_
                                    refine cl_VA (b := x0) (As := []) (rest := []) F hK hA hP hD hS (c_X3_takes hX236) (cwV 0 hts gL_takes_X3_takes rfl rfl rfl (by decide +kernel) ⟨Nat.le_of_ble_eq_true rfl, Nat.le_of_ble_eq_true rfl⟩) rfl rfl rfl hl.1 rfl (Nat.le_of_ble_eq_true rfl) ⟨Nat.zero_le _, Nat.zero_le _⟩ dL_takes_244 (fun r244 u244 H locs hw244 hP hD hS => ?_)
                                    try dsimp only at hw244 hP hD
                                    obtain rfl : r244 = (nI (reach (tmA now (nI (reach now))).2)) := hw244
                                    refine lv_if_ne (tgt := 277) hx hb dL_takes_247 (by decide) (fun c247 => ?_) (fun c247 => ?_)
                                    · skip
                                      replace c247 : ¬ (reach (tmA now (nI (reach now))).2) = 0 := by rw [show (0 : Int32) = nI 0 from rfl, nI_eq (by omega) (by omega)] at c247; try exact c247
                                      exfalso
                                      omega
                                    · skip
                                      replace c247 : (reach (tmA now (nI (reach now))).2) = 0 := by rw [show (0 : Int32) = nI 0 from rfl, nI_eq (by omega) (by omega)] at c247; try exact c247
                                      refine lv_aload_n hx hb dL_takes_250 rfl (lv_at hl 8 rfl) ?_
                                      refine lv_iconst (v := (nI 0)) hx hb dL_takes_251 (by decide) ?_
                                      refine cl_VA (b := x0) (As := [.int (nI 0)]) (rest := []) F hK hA hP hD hS (c_X3_next hX236) (cwV 1 hts gL_takes_X3_next rfl rfl rfl (by decide +kernel) ⟨Nat.le_of_ble_eq_true rfl, Nat.le_of_ble_eq_true rfl⟩) rfl rfl rfl hl.1 rfl (Nat.le_of_ble_eq_true rfl) ⟨Nat.zero_le _, Nat.zero_le _⟩ dL_takes_252 (fun r252 u252 H locs hw252 hP hD hS => ?_)
                                      try dsimp only at hw252 hP hD
                                      obtain rfl : r252 = (-9) := hw252.trans (nxA_0 (by decide) (tk_no hm.2))
                                      refine lv_bipush (v := (-9)) hx hb dL_takes_255 (by decide) ?_
                                      refine lv_icmp_ne (tgt := 277) hx hb dL_takes_257 (by decide) (fun c257 => ?_) (fun c257 => ?_)
                                      · skip
                                        exfalso
                                        exact absurd rfl c257
                                      · skip
                                        refine lv_aload_n hx hb dL_takes_260 rfl (lv_at hl 8 rfl) ?_
                                        refine cl_VA (b := x0) (As := []) (rest := []) F hK hA hP hD hS (c_X3_undo hX236) (cwV 0 hts gL_takes_X3_undo rfl rfl rfl (by decide +kernel) ⟨Nat.le_of_ble_eq_true rfl, Nat.le_of_ble_eq_true rfl⟩) rfl rfl rfl hl.1 rfl (Nat.le_of_ble_eq_true rfl) ⟨Nat.zero_le _, Nat.zero_le _⟩ dL_takes_261 (fun r261 u261 H locs hw261 hP hD hS => ?_)
                                        try dsimp only at hw261 hP hD
                                        have hX261 : XI now (psh p2 k2 now) (kpK k2 - 1) u236.2.1 (rlV u236.1 u236.2.1 (kpK k2)) := XI_cong (fun j hj => un_back hk5_k2 hj) hw261.2
                                        obtain ⟨k3, hk3⟩ : ∃ z9, z9 = kpK k2 - 1 := ⟨_, rfl⟩
                                        obtain ⟨p3, hp3⟩ : ∃ z9, z9 = psh p2 k2 now := ⟨_, rfl⟩
                                        have hres261 := hw261.1
                                        rw [← hk3] at hP hD hX261
                                        rw [← hp3] at hX261
                                        have hk5_k3 : k3 ≤ 5 := hX261.2.1
                                        obtain rfl : r261 = (nI (kpK k2 - 1)) := hw261.1.trans (unA_k hk5_k2)
                                        refine lv_if_lt (tgt := 277) hx hb dL_takes_264 (by decide) (fun c264 => ?_) (fun c264 => ?_)
                                        · skip
                                          replace c264 : (kpK k2 - 1) < 0 := by rw [show (0 : Int32) = nI 0 from rfl, nI_ltI (by omega) (by omega)] at c264; try exact c264
                                          exfalso
                                          omega
                                        · skip
                                          replace c264 : ¬ ((kpK k2 - 1) < 0) := by rw [show (0 : Int32) = nI 0 from rfl, nI_ltI (by omega) (by omega)] at c264; try exact c264
                                          refine lv_aload_n hx hb dL_takes_267 rfl (lv_at hl 8 rfl) ?_
                                          refine cl_SL (As := [.ref x0]) (rest := []) F hK hA hP hD hS (c_L_mark hX261) (va_cwS 1 hts gL_takes_L_mark rfl rfl rfl (by decide +kernel) ⟨Nat.le_of_ble_eq_true rfl, Nat.le_of_ble_eq_true rfl⟩) rfl hl.1 rfl (Nat.le_of_ble_eq_true rfl) ⟨Nat.zero_le _, Nat.zero_le _⟩ dL_takes_268 (fun r268 u268 H locs hw268 hP hD hS => ?_)
                                          try dsimp only at hw268 hP hD
                                          obtain rfl : r268 = (mkF now) := hw268
                                          refine lv_lload hx hb dL_takes_271 (lv_at hl 1 rfl) ?_
                                          refine W.lcmp hx hb dL_takes_273 ?_
                                          refine n_lcmp0 ?_
                                          refine lv_if_eq (tgt := 279) hx hb dL_takes_274 (by decide) (fun c274 => ?_) (fun c274 => ?_)
                                          · skip
                                            refine lv_aload_n hx hb dL_takes_279 rfl (lv_at hl 8 rfl) ?_
                                            refine cl_VA (b := x0) (As := []) (rest := []) F hK hA hP hD hS (c_X3_clearText hT1q) (cwV 0 hts gL_takes_X3_clearText rfl rfl rfl (by decide +kernel) ⟨Nat.le_of_ble_eq_true rfl, Nat.le_of_ble_eq_true rfl⟩) rfl rfl rfl hl.1 rfl (Nat.le_of_ble_eq_true rfl) ⟨Nat.zero_le _, Nat.zero_le _⟩ dL_takes_280 (fun r280 u280 H locs hw280 hP hD hS => ?_)
                                            try dsimp only at hw280 hP hD
                                            obtain rfl : r280 = (nI u229.2) := hw280
                                            refine lv_if_le (tgt := 336) hx hb dL_takes_283 (by decide) (fun c283 => ?_) (fun c283 => ?_)
                                            · skip
                                              replace c283 : u229.2 ≤ 0 := by rw [show (0 : Int32) = nI 0 from rfl, nI_leI (by omega) (by omega)] at c283; try exact c283
                                              exfalso
                                              omega
                                            · skip
                                              replace c283 : ¬ (u229.2 ≤ 0) := by rw [show (0 : Int32) = nI 0 from rfl, nI_leI (by omega) (by omega)] at c283; try exact c283
                                              refine lv_iload hx hb dL_takes_286 (lv_at hl 4 rfl) ?_
                                              refine lv_sipush (v := (nI 319)) hx hb dL_takes_288 (by decide) ?_
                                              refine lv_icmp_gt (tgt := 315) hx hb dL_takes_291 (by decide) (fun c291 => ?_) (fun c291 => ?_)
                                              · skip
                                                replace c291 : 319 < (reach now) := by rw [nI_ltI (by omega) (by omega)] at c291; try exact c291
                                                refine lv_aload_n hx hb dL_takes_315 rfl (lv_at hl 8 rfl) ?_
                                                refine cl_SL (As := [.ref x0]) (rest := []) F hK hA hP hD hS (c_L_mark hX261) (va_cwS 1 hts gL_takes_L_mark rfl rfl rfl (by decide +kernel) ⟨Nat.le_of_ble_eq_true rfl, Nat.le_of_ble_eq_true rfl⟩) rfl hl.1 rfl (Nat.le_of_ble_eq_true rfl) ⟨Nat.zero_le _, Nat.zero_le _⟩ dL_takes_316 (fun r316 u316 H locs hw316 hP hD hS => ?_)
                                                try dsimp only at hw316 hP hD
                                                obtain rfl : r316 = (mkF now) := hw316
                                                refine lv_lload hx hb dL_takes_319 (lv_at hl 1 rfl) ?_
                                                refine W.lcmp hx hb dL_takes_321 ?_
                                                refine n_lcmp0 ?_
                                                refine lv_if_ne (tgt := 336) hx hb dL_takes_322 (by decide) (fun c322 => ?_) (fun c322 => ?_)
                                                · skip
                                                  exfalso
                                                  exact absurd c322 (by decide)
                                                · skip
                                                  refine lv_aload_n hx hb dL_takes_325 rfl (lv_at hl 8 rfl) ?_
                                                  refine cl_VA (b := x0) (As := []) (rest := []) F hK hA hP hD hS (c_X3_clearText (by decide)) (cwV 0 hts gL_takes_X3_clearText rfl rfl rfl (by decide +kernel) ⟨Nat.le_of_ble_eq_true rfl, Nat.le_of_ble_eq_true rfl⟩) rfl rfl rfl hl.1 rfl (Nat.le_of_ble_eq_true rfl) ⟨Nat.zero_le _, Nat.zero_le _⟩ dL_takes_326 (fun r326 u326 H locs hw326 hP hD hS => ?_)
                                                  try dsimp only at hw326 hP hD
                                                  obtain rfl : r326 = (nI 0) := hw326
                                                  refine lv_if_lt (tgt := 336) hx hb dL_takes_329 (by decide) (fun c329 => ?_) (fun c329 => ?_)
                                                  · skip
                                                    exfalso
                                                    exact absurd c329 (by decide)
                                                  · skip
                                                    refine lv_iconst (v := (nI 1)) hx hb dL_takes_332 (by decide) ?_
                                                    refine lv_goto (tgt := 337) hx hb dL_takes_333 (by decide) ?_
                                                    exact RETN _ _ (nI 1) ((rlV u236.1 u236.2.1 (kpK k2)), u236.2.1, u252, u229.1, u236.2.2, p3, k3) _ _ dL_takes_337 rfl (⟨rfl, hX261⟩) hP hD hS
                                              · skip
                                                replace c291 : ¬ (319 < (reach now)) := by rw [nI_ltI (by omega) (by omega)] at c291; try exact c291
                                                refine lv_aload_n hx hb dL_takes_294 rfl (lv_at hl 8 rfl) ?_
                                                refine lv_iload hx hb dL_takes_295 (lv_at hl 4 rfl) ?_
                                                refine lv_iconst (v := (nI 1)) hx hb dL_takes_297 (by decide) ?_
                                                refine lv_iadd hx hb dL_takes_298 ?_
                                                refine n_as (x' := nI ((reach now) + 1)) (nI_add _ _) ?_
                                                refine cl_SA (As := [.ref x0, .int (nI ((reach now) + 1))]) (rest := []) F hK hA hP hD hS (c_L_types (by omega) (by omega)) (va_cwS 2 hts gL_takes_L_types rfl rfl rfl (by decide +kernel) ⟨Nat.le_of_ble_eq_true rfl, Nat.le_of_ble_eq_true rfl⟩) rfl hl.1 rfl (Nat.le_of_ble_eq_true rfl) ⟨Nat.zero_le _, Nat.zero_le _⟩ dL_takes_299 (fun r299 u299 H locs hw299 hP hD hS => ?_)
                                                try dsimp only at hw299 hP hD
                                                obtain rfl : r299 = (nI 1) := hw299.1
                                                have hT2 := hw299.2
                                                have hT2p := ty_pos hT2
                                                have hT2q : u299.2 ≤ 80 := hT2.1
                                                refine lv_if_eq (tgt := 336) hx hb dL_takes_302 (by decide) (fun c302 => ?_) (fun c302 => ?_)
                                                · skip
                                                  exfalso
                                                  exact absurd c302 (by decide)
                                                · skip
                                                  refine lv_aload_n hx hb dL_takes_305 rfl (lv_at hl 8 rfl) ?_
                                                  have hf := ty_fail (f := now) hT2 (tm_more (by omega))
                                                  refine cl_VA (b := x0) (As := []) (rest := []) F hK hA hP hD hS (cf_run hX261 hT2.1 hT2.2.1 (by rw [hf]; decide)) (cwV 0 hts gL_takes_X3_run rfl rfl rfl (by decide +kernel) ⟨Nat.le_of_ble_eq_true rfl, Nat.le_of_ble_eq_true rfl⟩) rfl rfl rfl hl.1 rfl (Nat.le_of_ble_eq_true rfl) ⟨Nat.zero_le _, Nat.zero_le _⟩ dL_takes_306 (fun r306 u306 H locs hw306 hP hD hS => ?_)
                                                  try dsimp only at hw306 hP hD
                                                  obtain rfl : r306 = (-1000) := hw306.1.trans hf
                                                  have hX306 := hw306.2
                                                  refine lv_sipush (v := (-1000)) hx hb dL_takes_309 (by decide) ?_
                                                  refine lv_icmp_ne (tgt := 336) hx hb dL_takes_312 (by decide) (fun c312 => ?_) (fun c312 => ?_)
                                                  · skip
                                                    exfalso
                                                    exact absurd rfl c312
                                                  · skip
                                                    refine lv_aload_n hx hb dL_takes_315 rfl (lv_at hl 8 rfl) ?_
                                                    refine cl_SL (As := [.ref x0]) (rest := []) F hK hA hP hD hS (c_L_mark hX306) (va_cwS 1 hts gL_takes_L_mark rfl rfl rfl (by decide +kernel) ⟨Nat.le_of_ble_eq_true rfl, Nat.le_of_ble_eq_true rfl⟩) rfl hl.1 rfl (Nat.le_of_ble_eq_true rfl) ⟨Nat.zero_le _, Nat.zero_le _⟩ dL_takes_316 (fun r316 u316 H locs hw316 hP hD hS => ?_)
                                                    try dsimp only at hw316 hP hD
                                                    obtain rfl : r316 = (mkF now) := hw316
                                                    refine lv_lload hx hb dL_takes_319 (lv_at hl 1 rfl) ?_
                                                    refine W.lcmp hx hb dL_takes_321 ?_
                                                    refine n_lcmp0 ?_
                                                    refine lv_if_ne (tgt := 336) hx hb dL_takes_322 (by decide) (fun c322 => ?_) (fun c322 => ?_)
                                                    · skip
                                                      exfalso
                                                      exact absurd c322 (by decide)
                                                    · skip
                                                      refine lv_aload_n hx hb dL_takes_325 rfl (lv_at hl 8 rfl) ?_
                                                      refine cl_VA (b := x0) (As := []) (rest := []) F hK hA hP hD hS (c_X3_clearText hT2q) (cwV 0 hts gL_takes_X3_clearText rfl rfl rfl (by decide +kernel) ⟨Nat.le_of_ble_eq_true rfl, Nat.le_of_ble_eq_true rfl⟩) rfl rfl rfl hl.1 rfl (Nat.le_of_ble_eq_true rfl) ⟨Nat.zero_le _, Nat.zero_le _⟩ dL_takes_326 (fun r326 u326 H locs hw326 hP hD hS => ?_)
                                                      try dsimp only at hw326 hP hD
                                                      obtain rfl : r326 = (nI u299.2) := hw326
                                                      refine lv_if_lt (tgt := 336) hx hb dL_takes_329 (by decide) (fun c329 => ?_) (fun c329 => ?_)
                                                      · skip
                                                        replace c329 : u299.2 < 0 := by rw [show (0 : Int32) = nI 0 from rfl, nI_ltI (by omega) (by omega)] at c329; try exact c329
                                                        exfalso
                                                        omega
                                                      · skip
                                                        replace c329 : ¬ (u299.2 < 0) := by rw [show (0 : Int32) = nI 0 from rfl, nI_ltI (by omega) (by omega)] at c329; try exact c329
                                                        refine lv_iconst (v := (nI 1)) hx hb dL_takes_332 (by decide) ?_
                                                        refine lv_goto (tgt := 337) hx hb dL_takes_333 (by decide) ?_
                                                        exact RETN _ _ (nI 1) (u306.1, u306.2.1, u252, u299.1, u306.2.2, p3, k3) _ _ dL_takes_337 rfl (⟨rfl, hX306⟩) hP hD hS
                                          · skip
                                            exfalso
                                            exact absurd c274 (by decide)
                              · skip
                                exfalso
                                exact absurd c221 (by decide)
                        · skip
                          exfalso
                          exact absurd c188 (by decide)
                    · skip
                      exfalso
                      exact absurd c174 (by decide)
        · skip
          exfalso
          exact absurd c119 (by decide)
    · skip
      replace c51 : ¬ (0 ≤ sl) := by rw [show (0 : Int32) = nI 0 from rfl, nI_leI (by omega) (by omega)] at c51; try exact c51
      exfalso
      omega
  ·
    skip
    refine lv_aload_n hx hb dL_takes_0 rfl (lv_at hl 0 rfl) ?_
    refine lv_iconst (v := (nI 0)) hx hb dL_takes_1 (by decide) ?_
    refine cl_VA (b := x0) (As := [.int (nI 0)]) (rest := []) F hK hA hP hD hS (c_X3_next hX) (cwV 1 hts gL_takes_X3_next rfl rfl rfl (by decide +kernel) ⟨Nat.le_of_ble_eq_true rfl, Nat.le_of_ble_eq_true rfl⟩) rfl rfl rfl hl.1 rfl (Nat.le_of_ble_eq_true rfl) ⟨Nat.zero_le _, Nat.zero_le _⟩ dL_takes_2 (fun r2 u2 H locs hw2 hP hD hS => ?_)
    try dsimp only at hw2 hP hD
    obtain rfl : r2 = (nI sl) := by rw [hw2, nxA_j (by decide) htk]; rfl
    refine lv_istore_n (lv' := [(1, .int (nI sl)), (0, .ref x0)]) hx hb dL_takes_5 rfl hl (by decide) rfl (fun ls hl => ?_)
    refine lv_aload_n hx hb dL_takes_6 rfl (lv_at hl 1 rfl) ?_
    refine lv_iconst (v := (nI 1)) hx hb dL_takes_7 (by decide) ?_
    refine cl_VA (b := x0) (As := [.int (nI 1)]) (rest := []) F hK hA hP hD hS (c_X3_next hX) (cwV 1 hts gL_takes_X3_next rfl rfl rfl (by decide +kernel) ⟨Nat.le_of_ble_eq_true rfl, Nat.le_of_ble_eq_true rfl⟩) rfl rfl rfl hl.1 rfl (Nat.le_of_ble_eq_true rfl) ⟨Nat.zero_le _, Nat.zero_le _⟩ dL_takes_8 (fun r8 u8 H locs hw8 hP hD hS => ?_)
    try dsimp only at hw8 hP hD
    obtain rfl : r8 = (nI q) := by rw [hw8, nxA_j (by decide) htk]; exact looks_q hq3
    refine lv_istore_n (lv' := [(2, .int (nI q)), (1, .int (nI sl)), (0, .ref x0)]) hx hb dL_takes_11 rfl hl (by decide) rfl (fun ls hl => ?_)
    refine lv_aload_n hx hb dL_takes_12 rfl (lv_at hl 2 rfl) ?_
    refine lv_iconst (v := (nI 2)) hx hb dL_takes_13 (by decide) ?_
    refine cl_VA (b := x0) (As := [.int (nI 2)]) (rest := []) F hK hA hP hD hS (c_X3_next hX) (cwV 1 hts gL_takes_X3_next rfl rfl rfl (by decide +kernel) ⟨Nat.le_of_ble_eq_true rfl, Nat.le_of_ble_eq_true rfl⟩) rfl rfl rfl hl.1 rfl (Nat.le_of_ble_eq_true rfl) ⟨Nat.zero_le _, Nat.zero_le _⟩ dL_takes_14 (fun r14 u14 H locs hw14 hP hD hS => ?_)
    try dsimp only at hw14 hP hD
    obtain rfl : r14 = (nI 1) := by rw [hw14, nxA_j (by decide) htk, if_neg (by decide), if_neg (by decide)]; exact if_pos (by omega)
    refine lv_istore_n (lv' := [(3, .int (nI 1)), (2, .int (nI q)), (1, .int (nI sl)), (0, .ref x0)]) hx hb dL_takes_17 rfl hl (by decide) rfl (fun ls hl => ?_)
    refine lv_aload_n hx hb dL_takes_18 rfl (lv_at hl 3 rfl) ?_
    refine cl_VA (b := x0) (As := []) (rest := []) F hK hA hP hD hS (c_X3_takes hX) (cwV 0 hts gL_takes_X3_takes rfl rfl rfl (by decide +kernel) ⟨Nat.le_of_ble_eq_true rfl, Nat.le_of_ble_eq_true rfl⟩) rfl rfl rfl hl.1 rfl (Nat.le_of_ble_eq_true rfl) ⟨Nat.zero_le _, Nat.zero_le _⟩ dL_takes_19 (fun r19 u19 H locs hw19 hP hD hS => ?_)
    try dsimp only at hw19 hP hD
    obtain rfl : r19 = (nI (reach now)) := hw19
    refine lv_istore (lv' := [(4, .int (nI (reach now))), (3, .int (nI 1)), (2, .int (nI q)), (1, .int (nI sl)), (0, .ref x0)]) hx hb dL_takes_22 hl (by decide) rfl (fun ls hl => ?_)
    refine lv_aload_n hx hb dL_takes_24 rfl (lv_at hl 4 rfl) ?_
    refine lv_iconst (v := (nI 5)) hx hb dL_takes_25 (by decide) ?_
    refine cl_VA (b := x0) (As := [.int (nI 5)]) (rest := []) F hK hA hP hD hS (c_X3_count hX) (cwV 1 hts gL_takes_X3_count rfl rfl rfl (by decide +kernel) ⟨Nat.le_of_ble_eq_true rfl, Nat.le_of_ble_eq_true rfl⟩) rfl rfl rfl hl.1 rfl (Nat.le_of_ble_eq_true rfl) ⟨Nat.zero_le _, Nat.zero_le _⟩ dL_takes_26 (fun r26 u26 H locs hw26 hP hD hS => ?_)
    try dsimp only at hw26 hP hD
    obtain rfl : r26 = (now 666) := by rw [hw26, ctA_j (by decide)]; rfl
    refine lv_istore (lv' := [(5, .int (now 666)), (4, .int (nI (reach now))), (3, .int (nI 1)), (2, .int (nI q)), (1, .int (nI sl)), (0, .ref x0)]) hx hb dL_takes_29 hl (by decide) rfl (fun ls hl => ?_)
    refine lv_aload_n hx hb dL_takes_31 rfl (lv_at hl 5 rfl) ?_
    refine lv_iconst (v := (nI 2)) hx hb dL_takes_32 (by decide) ?_
    refine cl_VA (b := x0) (As := [.int (nI 2)]) (rest := []) F hK hA hP hD hS (c_X3_count hX) (cwV 1 hts gL_takes_X3_count rfl rfl rfl (by decide +kernel) ⟨Nat.le_of_ble_eq_true rfl, Nat.le_of_ble_eq_true rfl⟩) rfl rfl rfl hl.1 rfl (Nat.le_of_ble_eq_true rfl) ⟨Nat.zero_le _, Nat.zero_le _⟩ dL_takes_33 (fun r33 u33 H locs hw33 hP hD hS => ?_)
    try dsimp only at hw33 hP hD
    obtain rfl : r33 = (nI (tot now (nI 2))) := by rw [hw33, ctA_j (by decide)]; rfl
    refine lv_istore (lv' := [(6, .int (nI (tot now (nI 2)))), (5, .int (now 666)), (4, .int (nI (reach now))), (3, .int (nI 1)), (2, .int (nI q)), (1, .int (nI sl)), (0, .ref x0)]) hx hb dL_takes_36 hl (by decide) rfl (fun ls hl => ?_)
    refine lv_aload_n hx hb dL_takes_38 rfl (lv_at hl 6 rfl) ?_
    refine cl_SL (As := [.ref x0]) (rest := []) F hK hA hP hD hS (c_L_mark hX) (va_cwS 1 hts gL_takes_L_mark rfl rfl rfl (by decide +kernel) ⟨Nat.le_of_ble_eq_true rfl, Nat.le_of_ble_eq_true rfl⟩) rfl hl.1 rfl (Nat.le_of_ble_eq_true rfl) ⟨Nat.zero_le _, Nat.zero_le _⟩ dL_takes_39 (fun r39 u39 H locs hw39 hP hD hS => ?_)
    try dsimp only at hw39 hP hD
    obtain rfl : r39 = (mkF now) := hw39
    refine lv_lstore (lv' := [(7, .long (mkF now)), (6, .int (nI (tot now (nI 2)))), (5, .int (now 666)), (4, .int (nI (reach now))), (3, .int (nI 1)), (2, .int (nI q)), (1, .int (nI sl)), (0, .ref x0)]) hx hb dL_takes_42 hl (by decide) rfl (fun ls hl => ?_)
    refine lv_aload_n hx hb dL_takes_44 rfl (lv_at hl 7 rfl) ?_
    refine cl_VA (b := x0) (As := []) (rest := []) F hK hA hP hD hS (c_X3_clearText htl) (cwV 0 hts gL_takes_X3_clearText rfl rfl rfl (by decide +kernel) ⟨Nat.le_of_ble_eq_true rfl, Nat.le_of_ble_eq_true rfl⟩) rfl rfl rfl hl.1 rfl (Nat.le_of_ble_eq_true rfl) ⟨Nat.zero_le _, Nat.zero_le _⟩ dL_takes_45 (fun r45 u45 H locs hw45 hP hD hS => ?_)
    try dsimp only at hw45 hP hD
    obtain rfl : r45 = (nI tl) := hw45
    refine lv_istore (lv' := [(9, .int (nI tl)), (7, .long (mkF now)), (6, .int (nI (tot now (nI 2)))), (5, .int (now 666)), (4, .int (nI (reach now))), (3, .int (nI 1)), (2, .int (nI q)), (1, .int (nI sl)), (0, .ref x0)]) hx hb dL_takes_48 hl (by decide) rfl (fun ls hl => ?_)
    refine lv_iload_n hx hb dL_takes_50 rfl (lv_at hl 7 rfl) ?_
    refine lv_if_ge (tgt := 107) hx hb dL_takes_51 (by decide) (fun c51 => ?_) (fun c51 => ?_)
    · skip
      replace c51 : 0 ≤ sl := by rw [show (0 : Int32) = nI 0 from rfl, nI_leI (by omega) (by omega)] at c51; try exact c51
      refine lv_iload hx hb dL_takes_107 (lv_at hl 4 rfl) ?_
      refine lv_iconst (v := (nI 1)) hx hb dL_takes_109 (by decide) ?_
      refine lv_icmp_lt (tgt := 224) hx hb dL_takes_110 (by decide) (fun c110 => ?_) (fun c110 => ?_)
      · skip
        replace c110 : (reach now) < 1 := by rw [nI_ltI (by omega) (by omega)] at c110; try exact c110
        exfalso
        omega
      · skip
        replace c110 : ¬ ((reach now) < 1) := by rw [nI_ltI (by omega) (by omega)] at c110; try exact c110
        refine lv_aload_n hx hb dL_takes_113 rfl (lv_at hl 8 rfl) ?_
        refine lv_iload_n hx hb dL_takes_114 rfl (lv_at hl 7 rfl) ?_
        refine lv_iconst (v := (nI 0)) hx hb dL_takes_115 (by decide) ?_
        refine cl_VA (b := x0) (As := [.int (nI sl), .int (nI 0)]) (rest := []) F hK hA hP hD hS (c_X3_slot hX) (cwV 2 hts gL_takes_X3_slot rfl rfl rfl (by decide +kernel) ⟨Nat.le_of_ble_eq_true rfl, Nat.le_of_ble_eq_true rfl⟩) rfl rfl rfl hl.1 rfl (Nat.le_of_ble_eq_true rfl) ⟨Nat.zero_le _, Nat.zero_le _⟩ dL_takes_116 (fun r116 u116 H locs hw116 hP hD hS => ?_)
        try dsimp only at hw116 hP hD
        obtain rfl : r116 = (now sl) := hw116.trans (sl0 hsl)
        refine lv_if_eq (tgt := 126) hx hb dL_takes_119 (by decide) (fun c119 => ?_) (fun c119 => ?_)
        · skip
          replace c119 : (now sl) = nI 0 := c119
          refine lv_aload_n hx hb dL_takes_126 rfl (lv_at hl 8 rfl) ?_
          refine cl_VA (b := x0) (As := []) (rest := []) F hK hA hP hD hS (cs_take hX (by rw [tkA_s htk]; exact nI_pos (by omega))) (cwV 0 hts gL_takes_X3_take rfl rfl rfl (by decide +kernel) ⟨Nat.le_of_ble_eq_true rfl, Nat.le_of_ble_eq_true rfl⟩) rfl rfl rfl hl.1 rfl (Nat.le_of_ble_eq_true rfl) ⟨Nat.zero_le _, Nat.zero_le _⟩ dL_takes_127 (fun r127 u127 H locs hw127 hP hD hS => ?_)
          try dsimp only at hw127 hP hD
          obtain rfl : r127 = (nI sl) := hw127.1.trans (tkA_s htk)
          have hX127 : XI (tk now).2 (psh past k now) (kpK k) u127.2 u127.1 := hw127.2
          have hkk := kpK_5 hk5
          refine lv_iload_n hx hb dL_takes_130 rfl (lv_at hl 7 rfl) ?_
          refine lv_icmp_ne (tgt := 224) hx hb dL_takes_131 (by decide) (fun c131 => ?_) (fun c131 => ?_)
          · skip
            replace c131 : ¬ sl = sl := by rw [nI_eq (by omega) (by omega)] at c131; try exact c131
            exfalso
            exact absurd rfl c131
          · skip
            replace c131 : sl = sl := by rw [nI_eq (by omega) (by omega)] at c131; try exact c131
            refine lv_aload_n hx hb dL_takes_134 rfl (lv_at hl 8 rfl) ?_
            refine lv_iconst (v := (nI 5)) hx hb dL_takes_135 (by decide) ?_
            refine cl_VA (b := x0) (As := [.int (nI 5)]) (rest := []) F hK hA hP hD hS (c_X3_count hX127) (cwV 1 hts gL_takes_X3_count rfl rfl rfl (by decide +kernel) ⟨Nat.le_of_ble_eq_true rfl, Nat.le_of_ble_eq_true rfl⟩) rfl rfl rfl hl.1 rfl (Nat.le_of_ble_eq_true rfl) ⟨Nat.zero_le _, Nat.zero_le _⟩ dL_takes_136 (fun r136 u136 H locs hw136 hP hD hS => ?_)
            try dsimp only at hw136 hP hD
            obtain rfl : r136 = ((tk now).2 666) := by rw [hw136, ctA_j (by decide)]; rfl
            refine lv_iload hx hb dL_takes_139 (lv_at hl 3 rfl) ?_
            refine lv_iload_n hx hb dL_takes_141 rfl (lv_at hl 6 rfl) ?_
            refine lv_iadd hx hb dL_takes_142 ?_
            refine lv_icmp_ne (tgt := 224) hx hb dL_takes_143 (by decide) (fun c143 => ?_) (fun c143 => ?_)
            · skip
              exfalso
              exact c143 hq3
            · skip
              refine lv_iload_n hx hb dL_takes_146 rfl (lv_at hl 6 rfl) ?_
              refine lv_iconst (v := (nI 1)) hx hb dL_takes_147 (by decide) ?_
              refine lv_icmp_lt (tgt := 224) hx hb dL_takes_148 (by decide) (fun c148 => ?_) (fun c148 => ?_)
              · skip
                replace c148 : q < 1 := by rw [nI_ltI (by omega) (by omega)] at c148; try exact c148
                exfalso
                omega
              · skip
                replace c148 : ¬ (q < 1) := by rw [nI_ltI (by omega) (by omega)] at c148; try exact c148
                refine lv_iload_n hx hb dL_takes_151 rfl (lv_at hl 6 rfl) ?_
                refine lv_bipush (v := (nI 20)) hx hb dL_takes_152 (by decide) ?_
                refine lv_icmp_gt (tgt := 224) hx hb dL_takes_154 (by decide) (fun c154 => ?_) (fun c154 => ?_)
                · skip
                  replace c154 : 20 < q := by rw [nI_ltI (by omega) (by omega)] at c154; try exact c154
                  exfalso
                  omega
                · skip
                  replace c154 : ¬ (20 < q) := by rw [nI_ltI (by omega) (by omega)] at c154; try exact c154
                  refine lv_aload_n hx hb dL_takes_157 rfl (lv_at hl 8 rfl) ?_
                  refine lv_iload_n hx hb dL_takes_158 rfl (lv_at hl 7 rfl) ?_
                  refine lv_iconst (v := (nI 0)) hx hb dL_takes_159 (by decide) ?_
                  refine cl_VA (b := x0) (As := [.int (nI sl), .int (nI 0)]) (rest := []) F hK hA hP hD hS (c_X3_slot hX127) (cwV 2 hts gL_takes_X3_slot rfl rfl rfl (by decide +kernel) ⟨Nat.le_of_ble_eq_true rfl, Nat.le_of_ble_eq_true rfl⟩) rfl rfl rfl hl.1 rfl (Nat.le_of_ble_eq_true rfl) ⟨Nat.zero_le _, Nat.zero_le _⟩ dL_takes_160 (fun r160 u160 H locs hw160 hP hD hS => ?_)
                  try dsimp only at hw160 hP hD
                  obtain rfl : r160 = (nI 1) := hw160.trans ((sl0 hsl).trans hg1)
                  refine lv_iconst (v := (nI 1)) hx hb dL_takes_163 (by decide) ?_
                  refine lv_icmp_ne (tgt := 224) hx hb dL_takes_164 (by decide) (fun c164 => ?_) (fun c164 => ?_)
                  · skip
                    exfalso
                    exact absurd c164 (by decide)
                  · skip
                    refine lv_aload_n hx hb dL_takes_167 rfl (lv_at hl 8 rfl) ?_
                    refine lv_iconst (v := (nI 2)) hx hb dL_takes_168 (by decide) ?_
                    refine cl_VA (b := x0) (As := [.int (nI 2)]) (rest := []) F hK hA hP hD hS (c_X3_count hX127) (cwV 1 hts gL_takes_X3_count rfl rfl rfl (by decide +kernel) ⟨Nat.le_of_ble_eq_true rfl, Nat.le_of_ble_eq_true rfl⟩) rfl rfl rfl hl.1 rfl (Nat.le_of_ble_eq_true rfl) ⟨Nat.zero_le _, Nat.zero_le _⟩ dL_takes_169 (fun r169 u169 H locs hw169 hP hD hS => ?_)
                    try dsimp only at hw169 hP hD
                    obtain rfl : r169 = (nI (tot (tk now).2 (nI 2))) := by rw [hw169, ctA_j (by decide)]; rfl
                    refine lv_iload_n hx hb dL_takes_172 rfl (lv_at hl 5 rfl) ?_
                    refine lv_iconst (v := (nI 1)) hx hb dL_takes_173 (by decide) ?_
                    refine lv_icmp_ne (tgt := 181) hx hb dL_takes_174 (by decide) (fun c174 => ?_) (fun c174 => ?_)
                    · skip
                      exfalso
                      exact absurd c174 (by decide)
                    · skip
                      refine lv_iconst (v := (nI 0)) hx hb dL_takes_177 (by decide) ?_
                      refine lv_goto (tgt := 183) hx hb dL_takes_178 (by decide) ?_
                      refine lv_icmp_ne (tgt := 224) hx hb dL_takes_183 (by decide) (fun c183 => ?_) (fun c183 => ?_)
                      · skip
                        replace c183 : ¬ (tot (tk now).2 (nI 2)) = 0 := by rw [nI_eq (by omega) (by omega)] at c183; try exact c183
                        exfalso
                        omega
                      · skip
                        replace c183 : (tot (tk now).2 (nI 2)) = 0 := by rw [nI_eq (by omega) (by omega)] at c183; try exact c183
                        refine lv_iload_n hx hb dL_takes_186 rfl (lv_at hl 5 rfl) ?_
                        refine lv_iconst (v := (nI 1)) hx hb dL_takes_187 (by decide) ?_
                        refine lv_icmp_ne (tgt := 196) hx hb dL_takes_188 (by decide) (fun c188 => ?_) (fun c188 => ?_)
                        · skip
                          exfalso
                          exact absurd c188 (by decide)
                        · skip
                          refine lv_iload hx hb dL_takes_191 (lv_at hl 2 rfl) ?_
                          refine lv_if_eq (tgt := 224) hx hb dL_takes_193 (by decide) (fun c193 => ?_) (fun c193 => ?_)
                          · skip
                            replace c193 : (tot now (nI 2)) = 0 := by rw [show (0 : Int32) = nI 0 from rfl, nI_eq (by omega) (by omega)] at c193; try exact c193
                            exfalso
                            omega
                          · skip
                            replace c193 : ¬ ((tot now (nI 2)) = 0) := by rw [show (0 : Int32) = nI 0 from rfl, nI_eq (by omega) (by omega)] at c193; try exact c193
                            refine lv_aload_n hx hb dL_takes_196 rfl (lv_at hl 8 rfl) ?_
                            refine cl_VA (b := x0) (As := []) (rest := []) F hK hA hP hD hS (c_X3_takes hX127) (cwV 0 hts gL_takes_X3_takes rfl rfl rfl (by decide +kernel) ⟨Nat.le_of_ble_eq_true rfl, Nat.le_of_ble_eq_true rfl⟩) rfl rfl rfl hl.1 rfl (Nat.le_of_ble_eq_true rfl) ⟨Nat.zero_le _, Nat.zero_le _⟩ dL_takes_197 (fun r197 u197 H locs hw197 hP hD hS => ?_)
                            try dsimp only at hw197 hP hD
                            obtain rfl : r197 = (nI (reach (tk now).2)) := hw197
                            refine lv_iload hx hb dL_takes_200 (lv_at hl 4 rfl) ?_
                            refine lv_iconst (v := (nI 1)) hx hb dL_takes_202 (by decide) ?_
                            refine lv_isub hx hb dL_takes_203 ?_
                            refine n_as (x' := nI ((reach now) - 1)) (pk_sub (by omega)) ?_
                            refine lv_icmp_ne (tgt := 224) hx hb dL_takes_204 (by decide) (fun c204 => ?_) (fun c204 => ?_)
                            · skip
                              replace c204 : ¬ (reach (tk now).2) = ((reach now) - 1) := by rw [nI_eq (by omega) (by omega)] at c204; try exact c204
                              exfalso
                              omega
                            · skip
                              replace c204 : (reach (tk now).2) = ((reach now) - 1) := by rw [nI_eq (by omega) (by omega)] at c204; try exact c204
                              refine lv_aload_n hx hb dL_takes_207 rfl (lv_at hl 8 rfl) ?_
                              refine cl_VA (b := x0) (As := []) (rest := []) F hK hA hP hD hS (c_X3_undo hX127) (cwV 0 hts gL_takes_X3_undo rfl rfl rfl (by decide +kernel) ⟨Nat.le_of_ble_eq_true rfl, Nat.le_of_ble_eq_true rfl⟩) rfl rfl rfl hl.1 rfl (Nat.le_of_ble_eq_true rfl) ⟨Nat.zero_le _, Nat.zero_le _⟩ dL_takes_208 (fun r208 u208 H locs hw208 hP hD hS => ?_)
                              try dsimp only at hw208 hP hD
                              have hX208 : XI now (psh past k now) (kpK k - 1) u127.2 (rlV u127.1 u127.2 (kpK k)) := XI_cong (fun j hj => un_back hk5 hj) hw208.2
                              obtain ⟨k2, hk2⟩ : ∃ z9, z9 = kpK k - 1 := ⟨_, rfl⟩
                              obtain ⟨p2, hp2⟩ : ∃ z9, z9 = psh past k now := ⟨_, rfl⟩
                              have hres208 := hw208.1
                              rw [← hk2] at hP hD hX208
                              rw [← hp2] at hX208
                              have hk5_k2 : k2 ≤ 5 := hX208.2.1
                              obtain rfl : r208 = (nI (kpK k - 1)) := hw208.1.trans (unA_k hk5)
                              refine lv_if_lt (tgt := 224) hx hb dL_takes_211 (by decide) (fun c211 => ?_) (fun c211 => ?_)
                              · skip
                                replace c211 : (kpK k - 1) < 0 := by rw [show (0 : Int32) = nI 0 from rfl, nI_ltI (by omega) (by omega)] at c211; try exact c211
                                exfalso
                                omega
                              · skip
                                replace c211 : ¬ ((kpK k - 1) < 0) := by rw [show (0 : Int32) = nI 0 from rfl, nI_ltI (by omega) (by omega)] at c211; try exact c211
                                refine lv_aload_n hx hb dL_takes_214 rfl (lv_at hl 8 rfl) ?_
                                refine cl_SL (As := [.ref x0]) (rest := []) F hK hA hP hD hS (c_L_mark hX208) (va_cwS 1 hts gL_takes_L_mark rfl rfl rfl (by decide +kernel) ⟨Nat.le_of_ble_eq_true rfl, Nat.le_of_ble_eq_true rfl⟩) rfl hl.1 rfl (Nat.le_of_ble_eq_true rfl) ⟨Nat.zero_le _, Nat.zero_le _⟩ dL_takes_215 (fun r215 u215 H locs hw215 hP hD hS => ?_)
                                try dsimp only at hw215 hP hD
                                obtain rfl : r215 = (mkF now) := hw215
                                refine lv_lload hx hb dL_takes_218 (lv_at hl 1 rfl) ?_
                                refine W.lcmp hx hb dL_takes_220 ?_
                                refine n_lcmp0 ?_
                                refine lv_if_eq (tgt := 226) hx hb dL_takes_221 (by decide) (fun c221 => ?_) (fun c221 => ?_)
                                · skip
                                  refine lv_aload_n hx hb dL_takes_226 rfl (lv_at hl 8 rfl) ?_
                                  refine lv_iload hx hb dL_takes_227 (lv_at hl 4 rfl) ?_
                                  refine cl_SA (As := [.ref x0, .int (nI (reach now))]) (rest := []) F hK hA hP hD hS (c_L_types (by omega) (by omega)) (va_cwS 2 hts gL_takes_L_types rfl rfl rfl (by decide +kernel) ⟨Nat.le_of_ble_eq_true rfl, Nat.le_of_ble_eq_true rfl⟩) rfl hl.1 rfl (Nat.le_of_ble_eq_true rfl) ⟨Nat.zero_le _, Nat.zero_le _⟩ dL_takes_229 (fun r229 u229 H locs hw229 hP hD hS => ?_)
                                  try dsimp only at hw229 hP hD
                                  obtain rfl : r229 = (nI 1) := hw229.1
                                  have hT1 := hw229.2
                                  have hT1p := ty_pos hT1
                                  have hT1q : u229.2 ≤ 80 := hT1.1
                                  refine lv_if_eq (tgt := 277) hx hb dL_takes_232 (by decide) (fun c232 => ?_) (fun c232 => ?_)
                                  · skip
                                    exfalso
                                    exact absurd c232 (by decide)
                                  · skip
                                    refine lv_aload_n hx hb dL_takes_235 rfl (lv_at hl 8 rfl) ?_
                                    have hm := tm_all (f := now) (by omega) (by omega)
                                    have hrn := ty_run (f := now) hT1 hm.1
                                    refine cl_VA (b := x0) (As := []) (rest := []) F hK hA hP hD hS (cs_run hX208 hT1.1 hT1.2.1 (by rw [hrn]; exact nI_pos (by decide))) (cwV 0 hts gL_takes_X3_run rfl rfl rfl (by decide +kernel) ⟨Nat.le_of_ble_eq_true rfl, Nat.le_of_ble_eq_true rfl⟩) rfl rfl rfl hl.1 rfl (Nat.le_of_ble_eq_true rfl) ⟨Nat.zero_le _, Nat.zero_le _⟩ dL_takes_236 (fun r236 u236 H locs hw236 hP hD hS => ?_)
                                    try dsimp only at hw236 hP hD
                                    obtain rfl : r236 = (nI 1) := hw236.1.trans (congrArg Prod.fst hrn)
                                    have hX236 : XI (tmA now (nI (reach now))).2 (psh p2 k2 now) (kpK k2) u236.2.1 u236.1 := by have q9 := hw236.2; rw [hrn] at q9; exact q9
                                    have hkk2 := kpK_5 hk5_k2
                                    refine lv_iconst (v := (nI 1)) hx hb dL_takes_239 (by decide) ?_
                                    refine lv_icmp_ne (tgt := 277) hx hb dL_takes_240 (by decide) (fun c240 => ?_) (fun c240 => ?_)
                                    · skip
                                      exfalso
                                      exact absurd c240 (by decide)
                                    · skip
                                      refine lv_aload_n hx hb dL_takes_243 rfl (lv_at hl 8 rfl) ?_
                                      refine cl_VA (b := x0) (As := []) (rest := []) F hK hA hP hD hS (c_X3_takes hX236) (cwV 0 hts gL_takes_X3_takes rfl rfl rfl (by decide +kernel) ⟨Nat.le_of_ble_eq_true rfl, Nat.le_of_ble_eq_true rfl⟩) rfl rfl rfl hl.1 rfl (Nat.le_of_ble_eq_true rfl) ⟨Nat.zero_le _, Nat.zero_le _⟩ dL_takes_244 (fun r244 u244 H locs hw244 hP hD hS => ?_)
                                      try dsimp only at hw244 hP hD
                                      obtain rfl : r244 = (nI (reach (tmA now (nI (reach now))).2)) := hw244
                                      refine lv_if_ne (tgt := 277) hx hb dL_takes_247 (by decide) (fun c247 => ?_) (fun c247 => ?_)
                                      · skip
                                        replace c247 : ¬ (reach (tmA now (nI (reach now))).2) = 0 := by rw [show (0 : Int32) = nI 0 from rfl, nI_eq (by omega) (by omega)] at c247; try exact c247
                                        exfalso
                                        omega
                                      · skip
                                        replace c247 : (reach (tmA now (nI (reach now))).2) = 0 := by rw [show (0 : Int32) = nI 0 from rfl, nI_eq (by omega) (by omega)] at c247; try exact c247
                                        refine lv_aload_n hx hb dL_takes_250 rfl (lv_at hl 8 rfl) ?_
                                        refine lv_iconst (v := (nI 0)) hx hb dL_takes_251 (by decide) ?_
                                        refine cl_VA (b := x0) (As := [.int (nI 0)]) (rest := []) F hK hA hP hD hS (c_X3_next hX236) (cwV 1 hts gL_takes_X3_next rfl rfl rfl (by decide +kernel) ⟨Nat.le_of_ble_eq_true rfl, Nat.le_of_ble_eq_true rfl⟩) rfl rfl rfl hl.1 rfl (Nat.le_of_ble_eq_true rfl) ⟨Nat.zero_le _, Nat.zero_le _⟩ dL_takes_252 (fun r252 u252 H locs hw252 hP hD hS => ?_)
                                        try dsimp only at hw252 hP hD
                                        obtain rfl : r252 = (-9) := hw252.trans (nxA_0 (by decide) (tk_no hm.2))
                                        refine lv_bipush (v := (-9)) hx hb dL_takes_255 (by decide) ?_
                                        refine lv_icmp_ne (tgt := 277) hx hb dL_takes_257 (by decide) (fun c257 => ?_) (fun c257 => ?_)
                                        · skip
                                          exfalso
                                          exact absurd rfl c257
                                        · skip
                                          refine lv_aload_n hx hb dL_takes_260 rfl (lv_at hl 8 rfl) ?_
                                          refine cl_VA (b := x0) (As := []) (rest := []) F hK hA hP hD hS (c_X3_undo hX236) (cwV 0 hts gL_takes_X3_undo rfl rfl rfl (by decide +kernel) ⟨Nat.le_of_ble_eq_true rfl, Nat.le_of_ble_eq_true rfl⟩) rfl rfl rfl hl.1 rfl (Nat.le_of_ble_eq_true rfl) ⟨Nat.zero_le _, Nat.zero_le _⟩ dL_takes_261 (fun r261 u261 H locs hw261 hP hD hS => ?_)
                                          try dsimp only at hw261 hP hD
                                          have hX261 : XI now (psh p2 k2 now) (kpK k2 - 1) u236.2.1 (rlV u236.1 u236.2.1 (kpK k2)) := XI_cong (fun j hj => un_back hk5_k2 hj) hw261.2
                                          obtain ⟨k3, hk3⟩ : ∃ z9, z9 = kpK k2 - 1 := ⟨_, rfl⟩
                                          obtain ⟨p3, hp3⟩ : ∃ z9, z9 = psh p2 k2 now := ⟨_, rfl⟩
                                          have hres261 := hw261.1
                                          rw [← hk3] at hP hD hX261
                                          rw [← hp3] at hX261
                                          have hk5_k3 : k3 ≤ 5 := hX261.2.1
                                          obtain rfl : r261 = (nI (kpK k2 - 1)) := hw261.1.trans (unA_k hk5_k2)
                                          refine lv_if_lt (tgt := 277) hx hb dL_takes_264 (by decide) (fun c264 => ?_) (fun c264 => ?_)
                                          · skip
                                            replace c264 : (kpK k2 - 1) < 0 := by rw [show (0 : Int32) = nI 0 from rfl, nI_ltI (by omega) (by omega)] at c264; try exact c264
                                            exfalso
                                            omega
                                          · skip
                                            replace c264 : ¬ ((kpK k2 - 1) < 0) := by rw [show (0 : Int32) = nI 0 from rfl, nI_ltI (by omega) (by omega)] at c264; try exact c264
                                            refine lv_aload_n hx hb dL_takes_267 rfl (lv_at hl 8 rfl) ?_
                                            refine cl_SL (As := [.ref x0]) (rest := []) F hK hA hP hD hS (c_L_mark hX261) (va_cwS 1 hts gL_takes_L_mark rfl rfl rfl (by decide +kernel) ⟨Nat.le_of_ble_eq_true rfl, Nat.le_of_ble_eq_true rfl⟩) rfl hl.1 rfl (Nat.le_of_ble_eq_true rfl) ⟨Nat.zero_le _, Nat.zero_le _⟩ dL_takes_268 (fun r268 u268 H locs hw268 hP hD hS => ?_)
                                            try dsimp only at hw268 hP hD
                                            obtain rfl : r268 = (mkF now) := hw268
                                            refine lv_lload hx hb dL_takes_271 (lv_at hl 1 rfl) ?_
                                            refine W.lcmp hx hb dL_takes_273 ?_
                                            refine n_lcmp0 ?_
                                            refine lv_if_eq (tgt := 279) hx hb dL_takes_274 (by decide) (fun c274 => ?_) (fun c274 => ?_)
                                            · skip
                                              refine lv_aload_n hx hb dL_takes_279 rfl (lv_at hl 8 rfl) ?_
                                              refine cl_VA (b := x0) (As := []) (rest := []) F hK hA hP hD hS (c_X3_clearText hT1q) (cwV 0 hts gL_takes_X3_clearText rfl rfl rfl (by decide +kernel) ⟨Nat.le_of_ble_eq_true rfl, Nat.le_of_ble_eq_true rfl⟩) rfl rfl rfl hl.1 rfl (Nat.le_of_ble_eq_true rfl) ⟨Nat.zero_le _, Nat.zero_le _⟩ dL_takes_280 (fun r280 u280 H locs hw280 hP hD hS => ?_)
                                              try dsimp only at hw280 hP hD
                                              obtain rfl : r280 = (nI u229.2) := hw280
                                              refine lv_if_le (tgt := 336) hx hb dL_takes_283 (by decide) (fun c283 => ?_) (fun c283 => ?_)
                                              · skip
                                                replace c283 : u229.2 ≤ 0 := by rw [show (0 : Int32) = nI 0 from rfl, nI_leI (by omega) (by omega)] at c283; try exact c283
                                                exfalso
                                                omega
                                              · skip
                                                replace c283 : ¬ (u229.2 ≤ 0) := by rw [show (0 : Int32) = nI 0 from rfl, nI_leI (by omega) (by omega)] at c283; try exact c283
                                                refine lv_iload hx hb dL_takes_286 (lv_at hl 4 rfl) ?_
                                                refine lv_sipush (v := (nI 319)) hx hb dL_takes_288 (by decide) ?_
                                                refine lv_icmp_gt (tgt := 315) hx hb dL_takes_291 (by decide) (fun c291 => ?_) (fun c291 => ?_)
                                                · skip
                                                  replace c291 : 319 < (reach now) := by rw [nI_ltI (by omega) (by omega)] at c291; try exact c291
                                                  refine lv_aload_n hx hb dL_takes_315 rfl (lv_at hl 8 rfl) ?_
                                                  refine cl_SL (As := [.ref x0]) (rest := []) F hK hA hP hD hS (c_L_mark hX261) (va_cwS 1 hts gL_takes_L_mark rfl rfl rfl (by decide +kernel) ⟨Nat.le_of_ble_eq_true rfl, Nat.le_of_ble_eq_true rfl⟩) rfl hl.1 rfl (Nat.le_of_ble_eq_true rfl) ⟨Nat.zero_le _, Nat.zero_le _⟩ dL_takes_316 (fun r316 u316 H locs hw316 hP hD hS => ?_)
                                                  try dsimp only at hw316 hP hD
                                                  obtain rfl : r316 = (mkF now) := hw316
                                                  refine lv_lload hx hb dL_takes_319 (lv_at hl 1 rfl) ?_
                                                  refine W.lcmp hx hb dL_takes_321 ?_
                                                  refine n_lcmp0 ?_
                                                  refine lv_if_ne (tgt := 336) hx hb dL_takes_322 (by decide) (fun c322 => ?_) (fun c322 => ?_)
                                                  · skip
                                                    exfalso
                                                    exact absurd c322 (by decide)
                                                  · skip
                                                    refine lv_aload_n hx hb dL_takes_325 rfl (lv_at hl 8 rfl) ?_
                                                    refine cl_VA (b := x0) (As := []) (rest := []) F hK hA hP hD hS (c_X3_clearText (by decide)) (cwV 0 hts gL_takes_X3_clearText rfl rfl rfl (by decide +kernel) ⟨Nat.le_of_ble_eq_true rfl, Nat.le_of_ble_eq_true rfl⟩) rfl rfl rfl hl.1 rfl (Nat.le_of_ble_eq_true rfl) ⟨Nat.zero_le _, Nat.zero_le _⟩ dL_takes_326 (fun r326 u326 H locs hw326 hP hD hS => ?_)
                                                    try dsimp only at hw326 hP hD
                                                    obtain rfl : r326 = (nI 0) := hw326
                                                    refine lv_if_lt (tgt := 336) hx hb dL_takes_329 (by decide) (fun c329 => ?_) (fun c329 => ?_)
                                                    · skip
                                                      exfalso
                                                      exact absurd c329 (by decide)
                                                    · skip
                                                      refine lv_iconst (v := (nI 1)) hx hb dL_takes_332 (by decide) ?_
                                                      refine lv_goto (tgt := 337) hx hb dL_takes_333 (by decide) ?_
                                                      exact RETN _ _ (nI 1) ((rlV u236.1 u236.2.1 (kpK k2)), u236.2.1, u252, u229.1, u236.2.2, p3, k3) _ _ dL_takes_337 rfl (⟨rfl, hX261⟩) hP hD hS
                                                · skip
                                                  replace c291 : ¬ (319 < (reach now)) := by rw [nI_ltI (by omega) (by omega)] at c291; try exact c291
                                                  refine lv_aload_n hx hb dL_takes_294 rfl (lv_at hl 8 rfl) ?_
                                                  refine lv_iload hx hb dL_takes_295 (lv_at hl 4 rfl) ?_
                                                  refine lv_iconst (v := (nI 1)) hx hb dL_takes_297 (by decide) ?_
                                                  refine lv_iadd hx hb dL_takes_298 ?_
                                                  refine n_as (x' := nI ((reach now) + 1)) (nI_add _ _) ?_
                                                  refine cl_SA (As := [.ref x0, .int (nI ((reach now) + 1))]) (rest := []) F hK hA hP hD hS (c_L_types (by omega) (by omega)) (va_cwS 2 hts gL_takes_L_types rfl rfl rfl (by decide +kernel) ⟨Nat.le_of_ble_eq_true rfl, Nat.le_of_ble_eq_true rfl⟩) rfl hl.1 rfl (Nat.le_of_ble_eq_true rfl) ⟨Nat.zero_le _, Nat.zero_le _⟩ dL_takes_299 (fun r299 u299 H locs hw299 hP hD hS => ?_)
                                                  try dsimp only at hw299 hP hD
                                                  obtain rfl : r299 = (nI 1) := hw299.1
                                                  have hT2 := hw299.2
                                                  have hT2p := ty_pos hT2
                                                  have hT2q : u299.2 ≤ 80 := hT2.1
                                                  refine lv_if_eq (tgt := 336) hx hb dL_takes_302 (by decide) (fun c302 => ?_) (fun c302 => ?_)
                                                  · skip
                                                    exfalso
                                                    exact absurd c302 (by decide)
                                                  · skip
                                                    refine lv_aload_n hx hb dL_takes_305 rfl (lv_at hl 8 rfl) ?_
                                                    have hf := ty_fail (f := now) hT2 (tm_more (by omega))
                                                    refine cl_VA (b := x0) (As := []) (rest := []) F hK hA hP hD hS (cf_run hX261 hT2.1 hT2.2.1 (by rw [hf]; decide)) (cwV 0 hts gL_takes_X3_run rfl rfl rfl (by decide +kernel) ⟨Nat.le_of_ble_eq_true rfl, Nat.le_of_ble_eq_true rfl⟩) rfl rfl rfl hl.1 rfl (Nat.le_of_ble_eq_true rfl) ⟨Nat.zero_le _, Nat.zero_le _⟩ dL_takes_306 (fun r306 u306 H locs hw306 hP hD hS => ?_)
                                                    try dsimp only at hw306 hP hD
                                                    obtain rfl : r306 = (-1000) := hw306.1.trans hf
                                                    have hX306 := hw306.2
                                                    refine lv_sipush (v := (-1000)) hx hb dL_takes_309 (by decide) ?_
                                                    refine lv_icmp_ne (tgt := 336) hx hb dL_takes_312 (by decide) (fun c312 => ?_) (fun c312 => ?_)
                                                    · skip
                                                      exfalso
                                                      exact absurd rfl c312
                                                    · skip
                                                      refine lv_aload_n hx hb dL_takes_315 rfl (lv_at hl 8 rfl) ?_
                                                      refine cl_SL (As := [.ref x0]) (rest := []) F hK hA hP hD hS (c_L_mark hX306) (va_cwS 1 hts gL_takes_L_mark rfl rfl rfl (by decide +kernel) ⟨Nat.le_of_ble_eq_true rfl, Nat.le_of_ble_eq_true rfl⟩) rfl hl.1 rfl (Nat.le_of_ble_eq_true rfl) ⟨Nat.zero_le _, Nat.zero_le _⟩ dL_takes_316 (fun r316 u316 H locs hw316 hP hD hS => ?_)
                                                      try dsimp only at hw316 hP hD
                                                      obtain rfl : r316 = (mkF now) := hw316
                                                      refine lv_lload hx hb dL_takes_319 (lv_at hl 1 rfl) ?_
                                                      refine W.lcmp hx hb dL_takes_321 ?_
                                                      refine n_lcmp0 ?_
                                                      refine lv_if_ne (tgt := 336) hx hb dL_takes_322 (by decide) (fun c322 => ?_) (fun c322 => ?_)
                                                      · skip
                                                        exfalso
                                                        exact absurd c322 (by decide)
                                                      · skip
                                                        refine lv_aload_n hx hb dL_takes_325 rfl (lv_at hl 8 rfl) ?_
                                                        refine cl_VA (b := x0) (As := []) (rest := []) F hK hA hP hD hS (c_X3_clearText hT2q) (cwV 0 hts gL_takes_X3_clearText rfl rfl rfl (by decide +kernel) ⟨Nat.le_of_ble_eq_true rfl, Nat.le_of_ble_eq_true rfl⟩) rfl rfl rfl hl.1 rfl (Nat.le_of_ble_eq_true rfl) ⟨Nat.zero_le _, Nat.zero_le _⟩ dL_takes_326 (fun r326 u326 H locs hw326 hP hD hS => ?_)
                                                        try dsimp only at hw326 hP hD
                                                        obtain rfl : r326 = (nI u299.2) := hw326
                                                        refine lv_if_lt (tgt := 336) hx hb dL_takes_329 (by decide) (fun c329 => ?_) (fun c329 => ?_)
                                                        · skip
                                                          replace c329 : u299.2 < 0 := by rw [show (0 : Int32) = nI 0 from rfl, nI_ltI (by omega) (by omega)] at c329; try exact c329
                                                          exfalso
                                                          omega
                                                        · skip
                                                          replace c329 : ¬ (u299.2 < 0) := by rw [show (0 : Int32) = nI 0 from rfl, nI_ltI (by omega) (by omega)] at c329; try exact c329
                                                          refine lv_iconst (v := (nI 1)) hx hb dL_takes_332 (by decide) ?_
                                                          refine lv_goto (tgt := 337) hx hb dL_takes_333 (by decide) ?_
                                                          exact RETN _ _ (nI 1) (u306.1, u306.2.1, u252, u299.1, u306.2.2, p3, k3) _ _ dL_takes_337 rfl (⟨rfl, hX306⟩) hP hD hS
                                            · skip
                                              exfalso
                                              exact absurd c274 (by decide)
                                · skip
                                  exfalso
                                  exact absurd c221 (by decide)
        · skip
          replace c119 : ¬ (now sl) = nI 0 := c119
          refine lv_iload_n hx hb dL_takes_122 rfl (lv_at hl 5 rfl) ?_
          refine lv_if_eq (tgt := 224) hx hb dL_takes_123 (by decide) (fun c123 => ?_) (fun c123 => ?_)
          · skip
            exfalso
            exact absurd c123 (by decide)
          · skip
            refine lv_aload_n hx hb dL_takes_126 rfl (lv_at hl 8 rfl) ?_
            refine cl_VA (b := x0) (As := []) (rest := []) F hK hA hP hD hS (cs_take hX (by rw [tkA_s htk]; exact nI_pos (by omega))) (cwV 0 hts gL_takes_X3_take rfl rfl rfl (by decide +kernel) ⟨Nat.le_of_ble_eq_true rfl, Nat.le_of_ble_eq_true rfl⟩) rfl rfl rfl hl.1 rfl (Nat.le_of_ble_eq_true rfl) ⟨Nat.zero_le _, Nat.zero_le _⟩ dL_takes_127 (fun r127 u127 H locs hw127 hP hD hS => ?_)
            try dsimp only at hw127 hP hD
            obtain rfl : r127 = (nI sl) := hw127.1.trans (tkA_s htk)
            have hX127 : XI (tk now).2 (psh past k now) (kpK k) u127.2 u127.1 := hw127.2
            have hkk := kpK_5 hk5
            refine lv_iload_n hx hb dL_takes_130 rfl (lv_at hl 7 rfl) ?_
            refine lv_icmp_ne (tgt := 224) hx hb dL_takes_131 (by decide) (fun c131 => ?_) (fun c131 => ?_)
            · skip
              replace c131 : ¬ sl = sl := by rw [nI_eq (by omega) (by omega)] at c131; try exact c131
              exfalso
              exact absurd rfl c131
            · skip
              replace c131 : sl = sl := by rw [nI_eq (by omega) (by omega)] at c131; try exact c131
              refine lv_aload_n hx hb dL_takes_134 rfl (lv_at hl 8 rfl) ?_
              refine lv_iconst (v := (nI 5)) hx hb dL_takes_135 (by decide) ?_
              refine cl_VA (b := x0) (As := [.int (nI 5)]) (rest := []) F hK hA hP hD hS (c_X3_count hX127) (cwV 1 hts gL_takes_X3_count rfl rfl rfl (by decide +kernel) ⟨Nat.le_of_ble_eq_true rfl, Nat.le_of_ble_eq_true rfl⟩) rfl rfl rfl hl.1 rfl (Nat.le_of_ble_eq_true rfl) ⟨Nat.zero_le _, Nat.zero_le _⟩ dL_takes_136 (fun r136 u136 H locs hw136 hP hD hS => ?_)
              try dsimp only at hw136 hP hD
              obtain rfl : r136 = ((tk now).2 666) := by rw [hw136, ctA_j (by decide)]; rfl
              refine lv_iload hx hb dL_takes_139 (lv_at hl 3 rfl) ?_
              refine lv_iload_n hx hb dL_takes_141 rfl (lv_at hl 6 rfl) ?_
              refine lv_iadd hx hb dL_takes_142 ?_
              refine lv_icmp_ne (tgt := 224) hx hb dL_takes_143 (by decide) (fun c143 => ?_) (fun c143 => ?_)
              · skip
                exfalso
                exact c143 hq3
              · skip
                refine lv_iload_n hx hb dL_takes_146 rfl (lv_at hl 6 rfl) ?_
                refine lv_iconst (v := (nI 1)) hx hb dL_takes_147 (by decide) ?_
                refine lv_icmp_lt (tgt := 224) hx hb dL_takes_148 (by decide) (fun c148 => ?_) (fun c148 => ?_)
                · skip
                  replace c148 : q < 1 := by rw [nI_ltI (by omega) (by omega)] at c148; try exact c148
                  exfalso
                  omega
                · skip
                  replace c148 : ¬ (q < 1) := by rw [nI_ltI (by omega) (by omega)] at c148; try exact c148
                  refine lv_iload_n hx hb dL_takes_151 rfl (lv_at hl 6 rfl) ?_
                  refine lv_bipush (v := (nI 20)) hx hb dL_takes_152 (by decide) ?_
                  refine lv_icmp_gt (tgt := 224) hx hb dL_takes_154 (by decide) (fun c154 => ?_) (fun c154 => ?_)
                  · skip
                    replace c154 : 20 < q := by rw [nI_ltI (by omega) (by omega)] at c154; try exact c154
                    exfalso
                    omega
                  · skip
                    replace c154 : ¬ (20 < q) := by rw [nI_ltI (by omega) (by omega)] at c154; try exact c154
                    refine lv_aload_n hx hb dL_takes_157 rfl (lv_at hl 8 rfl) ?_
                    refine lv_iload_n hx hb dL_takes_158 rfl (lv_at hl 7 rfl) ?_
                    refine lv_iconst (v := (nI 0)) hx hb dL_takes_159 (by decide) ?_
                    refine cl_VA (b := x0) (As := [.int (nI sl), .int (nI 0)]) (rest := []) F hK hA hP hD hS (c_X3_slot hX127) (cwV 2 hts gL_takes_X3_slot rfl rfl rfl (by decide +kernel) ⟨Nat.le_of_ble_eq_true rfl, Nat.le_of_ble_eq_true rfl⟩) rfl rfl rfl hl.1 rfl (Nat.le_of_ble_eq_true rfl) ⟨Nat.zero_le _, Nat.zero_le _⟩ dL_takes_160 (fun r160 u160 H locs hw160 hP hD hS => ?_)
                    try dsimp only at hw160 hP hD
                    obtain rfl : r160 = (nI 1) := hw160.trans ((sl0 hsl).trans hg1)
                    refine lv_iconst (v := (nI 1)) hx hb dL_takes_163 (by decide) ?_
                    refine lv_icmp_ne (tgt := 224) hx hb dL_takes_164 (by decide) (fun c164 => ?_) (fun c164 => ?_)
                    · skip
                      exfalso
                      exact absurd c164 (by decide)
                    · skip
                      refine lv_aload_n hx hb dL_takes_167 rfl (lv_at hl 8 rfl) ?_
                      refine lv_iconst (v := (nI 2)) hx hb dL_takes_168 (by decide) ?_
                      refine cl_VA (b := x0) (As := [.int (nI 2)]) (rest := []) F hK hA hP hD hS (c_X3_count hX127) (cwV 1 hts gL_takes_X3_count rfl rfl rfl (by decide +kernel) ⟨Nat.le_of_ble_eq_true rfl, Nat.le_of_ble_eq_true rfl⟩) rfl rfl rfl hl.1 rfl (Nat.le_of_ble_eq_true rfl) ⟨Nat.zero_le _, Nat.zero_le _⟩ dL_takes_169 (fun r169 u169 H locs hw169 hP hD hS => ?_)
                      try dsimp only at hw169 hP hD
                      obtain rfl : r169 = (nI (tot (tk now).2 (nI 2))) := by rw [hw169, ctA_j (by decide)]; rfl
                      refine lv_iload_n hx hb dL_takes_172 rfl (lv_at hl 5 rfl) ?_
                      refine lv_iconst (v := (nI 1)) hx hb dL_takes_173 (by decide) ?_
                      refine lv_icmp_ne (tgt := 181) hx hb dL_takes_174 (by decide) (fun c174 => ?_) (fun c174 => ?_)
                      · skip
                        exfalso
                        exact absurd c174 (by decide)
                      · skip
                        refine lv_iconst (v := (nI 0)) hx hb dL_takes_177 (by decide) ?_
                        refine lv_goto (tgt := 183) hx hb dL_takes_178 (by decide) ?_
                        refine lv_icmp_ne (tgt := 224) hx hb dL_takes_183 (by decide) (fun c183 => ?_) (fun c183 => ?_)
                        · skip
                          replace c183 : ¬ (tot (tk now).2 (nI 2)) = 0 := by rw [nI_eq (by omega) (by omega)] at c183; try exact c183
                          exfalso
                          omega
                        · skip
                          replace c183 : (tot (tk now).2 (nI 2)) = 0 := by rw [nI_eq (by omega) (by omega)] at c183; try exact c183
                          refine lv_iload_n hx hb dL_takes_186 rfl (lv_at hl 5 rfl) ?_
                          refine lv_iconst (v := (nI 1)) hx hb dL_takes_187 (by decide) ?_
                          refine lv_icmp_ne (tgt := 196) hx hb dL_takes_188 (by decide) (fun c188 => ?_) (fun c188 => ?_)
                          · skip
                            exfalso
                            exact absurd c188 (by decide)
                          · skip
                            refine lv_iload hx hb dL_takes_191 (lv_at hl 2 rfl) ?_
                            refine lv_if_eq (tgt := 224) hx hb dL_takes_193 (by decide) (fun c193 => ?_) (fun c193 => ?_)
                            · skip
                              replace c193 : (tot now (nI 2)) = 0 := by rw [show (0 : Int32) = nI 0 from rfl, nI_eq (by omega) (by omega)] at c193; try exact c193
                              exfalso
                              omega
                            · skip
                              replace c193 : ¬ ((tot now (nI 2)) = 0) := by rw [show (0 : Int32) = nI 0 from rfl, nI_eq (by omega) (by omega)] at c193; try exact c193
                              refine lv_aload_n hx hb dL_takes_196 rfl (lv_at hl 8 rfl) ?_
                              refine cl_VA (b := x0) (As := []) (rest := []) F hK hA hP hD hS (c_X3_takes hX127) (cwV 0 hts gL_takes_X3_takes rfl rfl rfl (by decide +kernel) ⟨Nat.le_of_ble_eq_true rfl, Nat.le_of_ble_eq_true rfl⟩) rfl rfl rfl hl.1 rfl (Nat.le_of_ble_eq_true rfl) ⟨Nat.zero_le _, Nat.zero_le _⟩ dL_takes_197 (fun r197 u197 H locs hw197 hP hD hS => ?_)
                              try dsimp only at hw197 hP hD
                              obtain rfl : r197 = (nI (reach (tk now).2)) := hw197
                              refine lv_iload hx hb dL_takes_200 (lv_at hl 4 rfl) ?_
                              refine lv_iconst (v := (nI 1)) hx hb dL_takes_202 (by decide) ?_
                              refine lv_isub hx hb dL_takes_203 ?_
                              refine n_as (x' := nI ((reach now) - 1)) (pk_sub (by omega)) ?_
                              refine lv_icmp_ne (tgt := 224) hx hb dL_takes_204 (by decide) (fun c204 => ?_) (fun c204 => ?_)
                              · skip
                                replace c204 : ¬ (reach (tk now).2) = ((reach now) - 1) := by rw [nI_eq (by omega) (by omega)] at c204; try exact c204
                                exfalso
                                omega
                              · skip
                                replace c204 : (reach (tk now).2) = ((reach now) - 1) := by rw [nI_eq (by omega) (by omega)] at c204; try exact c204
                                refine lv_aload_n hx hb dL_takes_207 rfl (lv_at hl 8 rfl) ?_
                                refine cl_VA (b := x0) (As := []) (rest := []) F hK hA hP hD hS (c_X3_undo hX127) (cwV 0 hts gL_takes_X3_undo rfl rfl rfl (by decide +kernel) ⟨Nat.le_of_ble_eq_true rfl, Nat.le_of_ble_eq_true rfl⟩) rfl rfl rfl hl.1 rfl (Nat.le_of_ble_eq_true rfl) ⟨Nat.zero_le _, Nat.zero_le _⟩ dL_takes_208 (fun r208 u208 H locs hw208 hP hD hS => ?_)
                                try dsimp only at hw208 hP hD
                                have hX208 : XI now (psh past k now) (kpK k - 1) u127.2 (rlV u127.1 u127.2 (kpK k)) := XI_cong (fun j hj => un_back hk5 hj) hw208.2
                                obtain ⟨k2, hk2⟩ : ∃ z9, z9 = kpK k - 1 := ⟨_, rfl⟩
                                obtain ⟨p2, hp2⟩ : ∃ z9, z9 = psh past k now := ⟨_, rfl⟩
                                have hres208 := hw208.1
                                rw [← hk2] at hP hD hX208
                                rw [← hp2] at hX208
                                have hk5_k2 : k2 ≤ 5 := hX208.2.1
                                obtain rfl : r208 = (nI (kpK k - 1)) := hw208.1.trans (unA_k hk5)
                                refine lv_if_lt (tgt := 224) hx hb dL_takes_211 (by decide) (fun c211 => ?_) (fun c211 => ?_)
                                · skip
                                  replace c211 : (kpK k - 1) < 0 := by rw [show (0 : Int32) = nI 0 from rfl, nI_ltI (by omega) (by omega)] at c211; try exact c211
                                  exfalso
                                  omega
                                · skip
                                  replace c211 : ¬ ((kpK k - 1) < 0) := by rw [show (0 : Int32) = nI 0 from rfl, nI_ltI (by omega) (by omega)] at c211; try exact c211
                                  refine lv_aload_n hx hb dL_takes_214 rfl (lv_at hl 8 rfl) ?_
                                  refine cl_SL (As := [.ref x0]) (rest := []) F hK hA hP hD hS (c_L_mark hX208) (va_cwS 1 hts gL_takes_L_mark rfl rfl rfl (by decide +kernel) ⟨Nat.le_of_ble_eq_true rfl, Nat.le_of_ble_eq_true rfl⟩) rfl hl.1 rfl (Nat.le_of_ble_eq_true rfl) ⟨Nat.zero_le _, Nat.zero_le _⟩ dL_takes_215 (fun r215 u215 H locs hw215 hP hD hS => ?_)
                                  try dsimp only at hw215 hP hD
                                  obtain rfl : r215 = (mkF now) := hw215
                                  refine lv_lload hx hb dL_takes_218 (lv_at hl 1 rfl) ?_
                                  refine W.lcmp hx hb dL_takes_220 ?_
                                  refine n_lcmp0 ?_
                                  refine lv_if_eq (tgt := 226) hx hb dL_takes_221 (by decide) (fun c221 => ?_) (fun c221 => ?_)
                                  · skip
                                    refine lv_aload_n hx hb dL_takes_226 rfl (lv_at hl 8 rfl) ?_
                                    refine lv_iload hx hb dL_takes_227 (lv_at hl 4 rfl) ?_
                                    refine cl_SA (As := [.ref x0, .int (nI (reach now))]) (rest := []) F hK hA hP hD hS (c_L_types (by omega) (by omega)) (va_cwS 2 hts gL_takes_L_types rfl rfl rfl (by decide +kernel) ⟨Nat.le_of_ble_eq_true rfl, Nat.le_of_ble_eq_true rfl⟩) rfl hl.1 rfl (Nat.le_of_ble_eq_true rfl) ⟨Nat.zero_le _, Nat.zero_le _⟩ dL_takes_229 (fun r229 u229 H locs hw229 hP hD hS => ?_)
                                    try dsimp only at hw229 hP hD
                                    obtain rfl : r229 = (nI 1) := hw229.1
                                    have hT1 := hw229.2
                                    have hT1p := ty_pos hT1
                                    have hT1q : u229.2 ≤ 80 := hT1.1
                                    refine lv_if_eq (tgt := 277) hx hb dL_takes_232 (by decide) (fun c232 => ?_) (fun c232 => ?_)
                                    · skip
                                      exfalso
                                      exact absurd c232 (by decide)
                                    · skip
                                      refine lv_aload_n hx hb dL_takes_235 rfl (lv_at hl 8 rfl) ?_
                                      have hm := tm_all (f := now) (by omega) (by omega)
                                      have hrn := ty_run (f := now) hT1 hm.1
                                      refine cl_VA (b := x0) (As := []) (rest := []) F hK hA hP hD hS (cs_run hX208 hT1.1 hT1.2.1 (by rw [hrn]; exact nI_pos (by decide))) (cwV 0 hts gL_takes_X3_run rfl rfl rfl (by decide +kernel) ⟨Nat.le_of_ble_eq_true rfl, Nat.le_of_ble_eq_true rfl⟩) rfl rfl rfl hl.1 rfl (Nat.le_of_ble_eq_true rfl) ⟨Nat.zero_le _, Nat.zero_le _⟩ dL_takes_236 (fun r236 u236 H locs hw236 hP hD hS => ?_)
                                      try dsimp only at hw236 hP hD
                                      obtain rfl : r236 = (nI 1) := hw236.1.trans (congrArg Prod.fst hrn)
                                      have hX236 : XI (tmA now (nI (reach now))).2 (psh p2 k2 now) (kpK k2) u236.2.1 u236.1 := by have q9 := hw236.2; rw [hrn] at q9; exact q9
                                      have hkk2 := kpK_5 hk5_k2
                                      refine lv_iconst (v := (nI 1)) hx hb dL_takes_239 (by decide) ?_
                                      refine lv_icmp_ne (tgt := 277) hx hb dL_takes_240 (by decide) (fun c240 => ?_) (fun c240 => ?_)
                                      · skip
                                        exfalso
                                        exact absurd c240 (by decide)
                                      · skip
                                        refine lv_aload_n hx hb dL_takes_243 rfl (lv_at hl 8 rfl) ?_
                                        refine cl_VA (b := x0) (As := []) (rest := []) F hK hA hP hD hS (c_X3_takes hX236) (cwV 0 hts gL_takes_X3_takes rfl rfl rfl (by decide +kernel) ⟨Nat.le_of_ble_eq_true rfl, Nat.le_of_ble_eq_true rfl⟩) rfl rfl rfl hl.1 rfl (Nat.le_of_ble_eq_true rfl) ⟨Nat.zero_le _, Nat.zero_le _⟩ dL_takes_244 (fun r244 u244 H locs hw244 hP hD hS => ?_)
                                        try dsimp only at hw244 hP hD
                                        obtain rfl : r244 = (nI (reach (tmA now (nI (reach now))).2)) := hw244
                                        refine lv_if_ne (tgt := 277) hx hb dL_takes_247 (by decide) (fun c247 => ?_) (fun c247 => ?_)
                                        · skip
                                          replace c247 : ¬ (reach (tmA now (nI (reach now))).2) = 0 := by rw [show (0 : Int32) = nI 0 from rfl, nI_eq (by omega) (by omega)] at c247; try exact c247
                                          exfalso
                                          omega
                                        · skip
                                          replace c247 : (reach (tmA now (nI (reach now))).2) = 0 := by rw [show (0 : Int32) = nI 0 from rfl, nI_eq (by omega) (by omega)] at c247; try exact c247
                                          refine lv_aload_n hx hb dL_takes_250 rfl (lv_at hl 8 rfl) ?_
                                          refine lv_iconst (v := (nI 0)) hx hb dL_takes_251 (by decide) ?_
                                          refine cl_VA (b := x0) (As := [.int (nI 0)]) (rest := []) F hK hA hP hD hS (c_X3_next hX236) (cwV 1 hts gL_takes_X3_next rfl rfl rfl (by decide +kernel) ⟨Nat.le_of_ble_eq_true rfl, Nat.le_of_ble_eq_true rfl⟩) rfl rfl rfl hl.1 rfl (Nat.le_of_ble_eq_true rfl) ⟨Nat.zero_le _, Nat.zero_le _⟩ dL_takes_252 (fun r252 u252 H locs hw252 hP hD hS => ?_)
                                          try dsimp only at hw252 hP hD
                                          obtain rfl : r252 = (-9) := hw252.trans (nxA_0 (by decide) (tk_no hm.2))
                                          refine lv_bipush (v := (-9)) hx hb dL_takes_255 (by decide) ?_
                                          refine lv_icmp_ne (tgt := 277) hx hb dL_takes_257 (by decide) (fun c257 => ?_) (fun c257 => ?_)
                                          · skip
                                            exfalso
                                            exact absurd rfl c257
                                          · skip
                                            refine lv_aload_n hx hb dL_takes_260 rfl (lv_at hl 8 rfl) ?_
                                            refine cl_VA (b := x0) (As := []) (rest := []) F hK hA hP hD hS (c_X3_undo hX236) (cwV 0 hts gL_takes_X3_undo rfl rfl rfl (by decide +kernel) ⟨Nat.le_of_ble_eq_true rfl, Nat.le_of_ble_eq_true rfl⟩) rfl rfl rfl hl.1 rfl (Nat.le_of_ble_eq_true rfl) ⟨Nat.zero_le _, Nat.zero_le _⟩ dL_takes_261 (fun r261 u261 H locs hw261 hP hD hS => ?_)
                                            try dsimp only at hw261 hP hD
                                            have hX261 : XI now (psh p2 k2 now) (kpK k2 - 1) u236.2.1 (rlV u236.1 u236.2.1 (kpK k2)) := XI_cong (fun j hj => un_back hk5_k2 hj) hw261.2
                                            obtain ⟨k3, hk3⟩ : ∃ z9, z9 = kpK k2 - 1 := ⟨_, rfl⟩
                                            obtain ⟨p3, hp3⟩ : ∃ z9, z9 = psh p2 k2 now := ⟨_, rfl⟩
                                            have hres261 := hw261.1
                                            rw [← hk3] at hP hD hX261
                                            rw [← hp3] at hX261
                                            have hk5_k3 : k3 ≤ 5 := hX261.2.1
                                            obtain rfl : r261 = (nI (kpK k2 - 1)) := hw261.1.trans (unA_k hk5_k2)
                                            refine lv_if_lt (tgt := 277) hx hb dL_takes_264 (by decide) (fun c264 => ?_) (fun c264 => ?_)
                                            · skip
                                              replace c264 : (kpK k2 - 1) < 0 := by rw [show (0 : Int32) = nI 0 from rfl, nI_ltI (by omega) (by omega)] at c264; try exact c264
                                              exfalso
                                              omega
                                            · skip
                                              replace c264 : ¬ ((kpK k2 - 1) < 0) := by rw [show (0 : Int32) = nI 0 from rfl, nI_ltI (by omega) (by omega)] at c264; try exact c264
                                              refine lv_aload_n hx hb dL_takes_267 rfl (lv_at hl 8 rfl) ?_
                                              refine cl_SL (As := [.ref x0]) (rest := []) F hK hA hP hD hS (c_L_mark hX261) (va_cwS 1 hts gL_takes_L_mark rfl rfl rfl (by decide +kernel) ⟨Nat.le_of_ble_eq_true rfl, Nat.le_of_ble_eq_true rfl⟩) rfl hl.1 rfl (Nat.le_of_ble_eq_true rfl) ⟨Nat.zero_le _, Nat.zero_le _⟩ dL_takes_268 (fun r268 u268 H locs hw268 hP hD hS => ?_)
                                              try dsimp only at hw268 hP hD
                                              obtain rfl : r268 = (mkF now) := hw268
                                              refine lv_lload hx hb dL_takes_271 (lv_at hl 1 rfl) ?_
                                              refine W.lcmp hx hb dL_takes_273 ?_
                                              refine n_lcmp0 ?_
                                              refine lv_if_eq (tgt := 279) hx hb dL_takes_274 (by decide) (fun c274 => ?_) (fun c274 => ?_)
                                              · skip
                                                refine lv_aload_n hx hb dL_takes_279 rfl (lv_at hl 8 rfl) ?_
                                                refine cl_VA (b := x0) (As := []) (rest := []) F hK hA hP hD hS (c_X3_clearText hT1q) (cwV 0 hts gL_takes_X3_clearText rfl rfl rfl (by decide +kernel) ⟨Nat.le_of_ble_eq_true rfl, Nat.le_of_ble_eq_true rfl⟩) rfl rfl rfl hl.1 rfl (Nat.le_of_ble_eq_true rfl) ⟨Nat.zero_le _, Nat.zero_le _⟩ dL_takes_280 (fun r280 u280 H locs hw280 hP hD hS => ?_)
                                                try dsimp only at hw280 hP hD
                                                obtain rfl : r280 = (nI u229.2) := hw280
                                                refine lv_if_le (tgt := 336) hx hb dL_takes_283 (by decide) (fun c283 => ?_) (fun c283 => ?_)
                                                · skip
                                                  replace c283 : u229.2 ≤ 0 := by rw [show (0 : Int32) = nI 0 from rfl, nI_leI (by omega) (by omega)] at c283; try exact c283
                                                  exfalso
                                                  omega
                                                · skip
                                                  replace c283 : ¬ (u229.2 ≤ 0) := by rw [show (0 : Int32) = nI 0 from rfl, nI_leI (by omega) (by omega)] at c283; try exact c283
                                                  refine lv_iload hx hb dL_takes_286 (lv_at hl 4 rfl) ?_
                                                  refine lv_sipush (v := (nI 319)) hx hb dL_takes_288 (by decide) ?_
                                                  refine lv_icmp_gt (tgt := 315) hx hb dL_takes_291 (by decide) (fun c291 => ?_) (fun c291 => ?_)
                                                  · skip
                                                    replace c291 : 319 < (reach now) := by rw [nI_ltI (by omega) (by omega)] at c291; try exact c291
                                                    refine lv_aload_n hx hb dL_takes_315 rfl (lv_at hl 8 rfl) ?_
                                                    refine cl_SL (As := [.ref x0]) (rest := []) F hK hA hP hD hS (c_L_mark hX261) (va_cwS 1 hts gL_takes_L_mark rfl rfl rfl (by decide +kernel) ⟨Nat.le_of_ble_eq_true rfl, Nat.le_of_ble_eq_true rfl⟩) rfl hl.1 rfl (Nat.le_of_ble_eq_true rfl) ⟨Nat.zero_le _, Nat.zero_le _⟩ dL_takes_316 (fun r316 u316 H locs hw316 hP hD hS => ?_)
                                                    try dsimp only at hw316 hP hD
                                                    obtain rfl : r316 = (mkF now) := hw316
                                                    refine lv_lload hx hb dL_takes_319 (lv_at hl 1 rfl) ?_
                                                    refine W.lcmp hx hb dL_takes_321 ?_
                                                    refine n_lcmp0 ?_
                                                    refine lv_if_ne (tgt := 336) hx hb dL_takes_322 (by decide) (fun c322 => ?_) (fun c322 => ?_)
                                                    · skip
                                                      exfalso
                                                      exact absurd c322 (by decide)
                                                    · skip
                                                      refine lv_aload_n hx hb dL_takes_325 rfl (lv_at hl 8 rfl) ?_
                                                      refine cl_VA (b := x0) (As := []) (rest := []) F hK hA hP hD hS (c_X3_clearText (by decide)) (cwV 0 hts gL_takes_X3_clearText rfl rfl rfl (by decide +kernel) ⟨Nat.le_of_ble_eq_true rfl, Nat.le_of_ble_eq_true rfl⟩) rfl rfl rfl hl.1 rfl (Nat.le_of_ble_eq_true rfl) ⟨Nat.zero_le _, Nat.zero_le _⟩ dL_takes_326 (fun r326 u326 H locs hw326 hP hD hS => ?_)
                                                      try dsimp only at hw326 hP hD
                                                      obtain rfl : r326 = (nI 0) := hw326
                                                      refine lv_if_lt (tgt := 336) hx hb dL_takes_329 (by decide) (fun c329 => ?_) (fun c329 => ?_)
                                                      · skip
                                                        exfalso
                                                        exact absurd c329 (by decide)
                                                      · skip
                                                        refine lv_iconst (v := (nI 1)) hx hb dL_takes_332 (by decide) ?_
                                                        refine lv_goto (tgt := 337) hx hb dL_takes_333 (by decide) ?_
                                                        exact RETN _ _ (nI 1) ((rlV u236.1 u236.2.1 (kpK k2)), u236.2.1, u252, u229.1, u236.2.2, p3, k3) _ _ dL_takes_337 rfl (⟨rfl, hX261⟩) hP hD hS
                                                  · skip
                                                    replace c291 : ¬ (319 < (reach now)) := by rw [nI_ltI (by omega) (by omega)] at c291; try exact c291
                                                    refine lv_aload_n hx hb dL_takes_294 rfl (lv_at hl 8 rfl) ?_
                                                    refine lv_iload hx hb dL_takes_295 (lv_at hl 4 rfl) ?_
                                                    refine lv_iconst (v := (nI 1)) hx hb dL_takes_297 (by decide) ?_
                                                    refine lv_iadd hx hb dL_takes_298 ?_
                                                    refine n_as (x' := nI ((reach now) + 1)) (nI_add _ _) ?_
                                                    refine cl_SA (As := [.ref x0, .int (nI ((reach now) + 1))]) (rest := []) F hK hA hP hD hS (c_L_types (by omega) (by omega)) (va_cwS 2 hts gL_takes_L_types rfl rfl rfl (by decide +kernel) ⟨Nat.le_of_ble_eq_true rfl, Nat.le_of_ble_eq_true rfl⟩) rfl hl.1 rfl (Nat.le_of_ble_eq_true rfl) ⟨Nat.zero_le _, Nat.zero_le _⟩ dL_takes_299 (fun r299 u299 H locs hw299 hP hD hS => ?_)
                                                    try dsimp only at hw299 hP hD
                                                    obtain rfl : r299 = (nI 1) := hw299.1
                                                    have hT2 := hw299.2
                                                    have hT2p := ty_pos hT2
                                                    have hT2q : u299.2 ≤ 80 := hT2.1
                                                    refine lv_if_eq (tgt := 336) hx hb dL_takes_302 (by decide) (fun c302 => ?_) (fun c302 => ?_)
                                                    · skip
                                                      exfalso
                                                      exact absurd c302 (by decide)
                                                    · skip
                                                      refine lv_aload_n hx hb dL_takes_305 rfl (lv_at hl 8 rfl) ?_
                                                      have hf := ty_fail (f := now) hT2 (tm_more (by omega))
                                                      refine cl_VA (b := x0) (As := []) (rest := []) F hK hA hP hD hS (cf_run hX261 hT2.1 hT2.2.1 (by rw [hf]; decide)) (cwV 0 hts gL_takes_X3_run rfl rfl rfl (by decide +kernel) ⟨Nat.le_of_ble_eq_true rfl, Nat.le_of_ble_eq_true rfl⟩) rfl rfl rfl hl.1 rfl (Nat.le_of_ble_eq_true rfl) ⟨Nat.zero_le _, Nat.zero_le _⟩ dL_takes_306 (fun r306 u306 H locs hw306 hP hD hS => ?_)
                                                      try dsimp only at hw306 hP hD
                                                      obtain rfl : r306 = (-1000) := hw306.1.trans hf
                                                      have hX306 := hw306.2
                                                      refine lv_sipush (v := (-1000)) hx hb dL_takes_309 (by decide) ?_
                                                      refine lv_icmp_ne (tgt := 336) hx hb dL_takes_312 (by decide) (fun c312 => ?_) (fun c312 => ?_)
                                                      · skip
                                                        exfalso
                                                        exact absurd rfl c312
                                                      · skip
                                                        refine lv_aload_n hx hb dL_takes_315 rfl (lv_at hl 8 rfl) ?_
                                                        refine cl_SL (As := [.ref x0]) (rest := []) F hK hA hP hD hS (c_L_mark hX306) (va_cwS 1 hts gL_takes_L_mark rfl rfl rfl (by decide +kernel) ⟨Nat.le_of_ble_eq_true rfl, Nat.le_of_ble_eq_true rfl⟩) rfl hl.1 rfl (Nat.le_of_ble_eq_true rfl) ⟨Nat.zero_le _, Nat.zero_le _⟩ dL_takes_316 (fun r316 u316 H locs hw316 hP hD hS => ?_)
                                                        try dsimp only at hw316 hP hD
                                                        obtain rfl : r316 = (mkF now) := hw316
                                                        refine lv_lload hx hb dL_takes_319 (lv_at hl 1 rfl) ?_
                                                        refine W.lcmp hx hb dL_takes_321 ?_
                                                        refine n_lcmp0 ?_
                                                        refine lv_if_ne (tgt := 336) hx hb dL_takes_322 (by decide) (fun c322 => ?_) (fun c322 => ?_)
                                                        · skip
                                                          exfalso
                                                          exact absurd c322 (by decide)
                                                        · skip
                                                          refine lv_aload_n hx hb dL_takes_325 rfl (lv_at hl 8 rfl) ?_
                                                          refine cl_VA (b := x0) (As := []) (rest := []) F hK hA hP hD hS (c_X3_clearText hT2q) (cwV 0 hts gL_takes_X3_clearText rfl rfl rfl (by decide +kernel) ⟨Nat.le_of_ble_eq_true rfl, Nat.le_of_ble_eq_true rfl⟩) rfl rfl rfl hl.1 rfl (Nat.le_of_ble_eq_true rfl) ⟨Nat.zero_le _, Nat.zero_le _⟩ dL_takes_326 (fun r326 u326 H locs hw326 hP hD hS => ?_)
                                                          try dsimp only at hw326 hP hD
                                                          obtain rfl : r326 = (nI u299.2) := hw326
                                                          refine lv_if_lt (tgt := 336) hx hb dL_takes_329 (by decide) (fun c329 => ?_) (fun c329 => ?_)
                                                          · skip
                                                            replace c329 : u299.2 < 0 := by rw [show (0 : Int32) = nI 0 from rfl, nI_ltI (by omega) (by omega)] at c329; try exact c329
                                                            exfalso
                                                            omega
                                                          · skip
                                                            replace c329 : ¬ (u299.2 < 0) := by rw [show (0 : Int32) = nI 0 from rfl, nI_ltI (by omega) (by omega)] at c329; try exact c329
                                                            refine lv_iconst (v := (nI 1)) hx hb dL_takes_332 (by decide) ?_
                                                            refine lv_goto (tgt := 337) hx hb dL_takes_333 (by decide) ?_
                                                            exact RETN _ _ (nI 1) (u306.1, u306.2.1, u252, u299.1, u306.2.2, p3, k3) _ _ dL_takes_337 rfl (⟨rfl, hX306⟩) hP hD hS
                                              · skip
                                                exfalso
                                                exact absurd c274 (by decide)
                                  · skip
                                    exfalso
                                    exact absurd c221 (by decide)
    · skip
      replace c51 : ¬ (0 ≤ sl) := by rw [show (0 : Int32) = nI 0 from rfl, nI_leI (by omega) (by omega)] at c51; try exact c51
      exfalso
      omega
