theorem cf_append {l : Launch} {D : va_G} {cI cG cC cR : ClassId} {aa : Nat → Nat → Nat} {x0 x1 x2 pp tt tl on k : Nat} {pf : Nat → Nat} {VV : Nat → Nat → Nat → Int32} {TV : Nat → Nat → Int32} {tex : Nat → Int32} {v : Int32} (htl : tl ≤ 80) (hin : inB v (nI 1) (nI 255) = false) : CtI l yX3_append wsX3_append { frames := 0, cells := 0, slots := 0, locals := 0 } D (TY cI cG cC cR) [.ref x0, .int v] (XW aa x0 x1 x2 pp tt cI cG cC cR VV TV tex pf tl on k) (fun (_ : Unit) => XW aa x0 x1 x2 pp tt cI cG cC cR VV TV tex pf tl on k) (fun (r : Int32) (_ : Unit) => r = -1) := by
  have e1 : apT tex tl v = tex := if_neg (fun q => by rw [hin] at q; exact absurd q.1 (by decide))
  have e2 : apL tl v = tl := if_neg (fun q => by rw [hin] at q; exact absurd q.1 (by decide))
  have e3 : apA tl v = -1 := by unfold apA; rw [hin]; rfl
  have q9 : CtI l yX3_append wsX3_append { frames := 0, cells := 0, slots := 0, locals := 0 } D (TY cI cG cC cR) [.ref x0, .int v] (XW aa x0 x1 x2 pp tt cI cG cC cR VV TV tex pf tl on k) (fun (_ : Unit) => XW aa x0 x1 x2 pp tt cI cG cC cR VV TV (apT tex tl v) pf (apL tl v) on k) (fun (r : Int32) (_ : Unit) => r = apA tl v) := c_X3_append htl
  rw [e1, e2, e3] at q9
  exact q9
set_option maxHeartbeats 40000000 in
set_option maxRecDepth 100000 in
theorem c_L_fails {l : Launch} {D : va_G} {cI cG cC cR : ClassId} {aa : Nat → Nat → Nat} {x0 x1 x2 pp tt tl on k : Nat} {pf : Nat → Nat} {VV : Nat → Nat → Nat → Int32} {TV : Nat → Nat → Int32} {tex now past : Nat → Int32} (hX : XI now past k on VV) (htl : tl ≤ 80) : CtI l yL_fails wsL_fails { frames := 6, cells := 0, slots := 0, locals := 141 } D (TY cI cG cC cR) [.ref x0] (XW aa x0 x1 x2 pp tt cI cG cC cR VV TV tex pf tl on k) (fun (u : (Nat → Nat → Nat → Int32) × Nat × (Nat → Nat → Int32)) => XW aa x0 x1 x2 pp tt cI cG cC cR u.1 u.2.2 tex pf tl u.2.1 k) (fun (r : Int32) (u : (Nat → Nat → Nat → Int32) × Nat × (Nat → Nat → Int32)) => r = nI 1 ∧ XI now past k u.2.1 u.1) := by
  refine CtI.of (cc := cL_fails) (maxL := 6) (ty := .boolean) (by decide) rfl (Nat.le_of_ble_eq_true rfl) ?_
  intro P0 e0 s0 m0 a0 b0 t0 c0 A0 Q0 ls F hK hP hD hA RETN hl
  obtain ⟨hx, hb, hml, hown, hts⟩ := id F
  have hS : va_S A0 s0.heap s0.heap [] := va_S.rf
  have hl : lv_has ls 6 [(0, .ref x0)] := hl
  obtain ⟨hon, hk5, R, hI, hH⟩ := id hX
  obtain ⟨ki, kb, kB, kz, ko⟩ := id hI
  refine lv_aload_n hx hb dL_fails_0 rfl (lv_at hl 0 rfl) ?_
  refine cl_SL (As := [.ref x0]) (rest := []) F hK hA hP hD hS (c_L_mark hX) (va_cwS 1 hts gL_fails_L_mark rfl rfl rfl (by decide +kernel) ⟨Nat.le_of_ble_eq_true rfl, Nat.le_of_ble_eq_true rfl⟩) rfl hl.1 rfl (Nat.le_of_ble_eq_true rfl) ⟨Nat.zero_le _, Nat.zero_le _⟩ dL_fails_1 (fun r1 u1 H locs hw1 hP hD hS => ?_)
  try dsimp only at hw1 hP hD
  obtain rfl : r1 = (mkF now) := hw1
  refine lv_lstore_n (lv' := [(1, .long (mkF now)), (0, .ref x0)]) hx hb dL_fails_4 rfl hl (by decide) rfl (fun ls hl => ?_)
  refine lv_aload_n hx hb dL_fails_5 rfl (lv_at hl 1 rfl) ?_
  refine lv_bipush (v := (nI 10)) hx hb dL_fails_6 (by decide) ?_
  refine cl_VA (b := x0) (As := [.int (nI 10)]) (rest := []) F hK hA hP hD hS (c_X3_count hX) (cwV 1 hts gL_fails_X3_count rfl rfl rfl (by decide +kernel) ⟨Nat.le_of_ble_eq_true rfl, Nat.le_of_ble_eq_true rfl⟩) rfl rfl rfl hl.1 rfl (Nat.le_of_ble_eq_true rfl) ⟨Nat.zero_le _, Nat.zero_le _⟩ dL_fails_8 (fun r8 u8 H locs hw8 hP hD hS => ?_)
  try dsimp only at hw8 hP hD
  obtain rfl : r8 = (nI k) := by rw [hw8, ctA_j (by decide)]; rfl
  refine lv_istore_n (lv' := [(3, .int (nI k)), (1, .long (mkF now)), (0, .ref x0)]) hx hb dL_fails_11 rfl hl (by decide) rfl (fun ls hl => ?_)
  refine lv_aload_n hx hb dL_fails_12 rfl (lv_at hl 2 rfl) ?_
  refine lv_iconst (v := (nI 0)) hx hb dL_fails_13 (by decide) ?_
  refine cl_VA (b := x0) (As := [.int (nI 0)]) (rest := []) F hK hA hP hD hS (cf_takeRun hX (neg1 (congrArg Prod.fst (trA_n (by decide))))) (cwV 1 hts gL_fails_X3_takeRun rfl rfl rfl (by decide +kernel) ⟨Nat.le_of_ble_eq_true rfl, Nat.le_of_ble_eq_true rfl⟩) rfl rfl rfl hl.1 rfl (Nat.le_of_ble_eq_true rfl) ⟨Nat.zero_le _, Nat.zero_le _⟩ dL_fails_14 (fun r14 u14 H locs hw14 hP hD hS => ?_)
  try dsimp only at hw14 hP hD
  obtain rfl : r14 = (-1) := hw14.1.trans (congrArg Prod.fst (trA_n (by decide)))
  have hX14 := hw14.2
  refine lv_iconst (v := (-1)) hx hb dL_fails_17 (by decide) ?_
  refine lv_icmp_ne (tgt := 332) hx hb dL_fails_18 (by decide) (fun c18 => ?_) (fun c18 => ?_)
  · skip
    exfalso
    exact absurd rfl c18
  · skip
    refine lv_aload_n hx hb dL_fails_21 rfl (lv_at hl 2 rfl) ?_
    refine lv_bipush (v := (nI 65)) hx hb dL_fails_22 (by decide) ?_
    refine cl_VA (b := x0) (As := [.int (nI 65)]) (rest := []) F hK hA hP hD hS (cf_takeRun hX14 (neg1 (congrArg Prod.fst (trA_n (by decide))))) (cwV 1 hts gL_fails_X3_takeRun rfl rfl rfl (by decide +kernel) ⟨Nat.le_of_ble_eq_true rfl, Nat.le_of_ble_eq_true rfl⟩) rfl rfl rfl hl.1 rfl (Nat.le_of_ble_eq_true rfl) ⟨Nat.zero_le _, Nat.zero_le _⟩ dL_fails_24 (fun r24 u24 H locs hw24 hP hD hS => ?_)
    try dsimp only at hw24 hP hD
    obtain rfl : r24 = (-1) := hw24.1.trans (congrArg Prod.fst (trA_n (by decide)))
    have hX24 := hw24.2
    refine lv_iconst (v := (-1)) hx hb dL_fails_27 (by decide) ?_
    refine lv_icmp_ne (tgt := 332) hx hb dL_fails_28 (by decide) (fun c28 => ?_) (fun c28 => ?_)
    · skip
      exfalso
      exact absurd rfl c28
    · skip
      refine lv_aload_n hx hb dL_fails_31 rfl (lv_at hl 2 rfl) ?_
      refine lv_iconst (v := (-1)) hx hb dL_fails_32 (by decide) ?_
      refine lv_iconst (v := (nI 5)) hx hb dL_fails_33 (by decide) ?_
      refine cl_VA (b := x0) (As := [.int (-1), .int (nI 5)]) (rest := []) F hK hA hP hD hS (cf_giveBack hX24 (neg1 (congrArg Prod.fst (gbA_n (Or.inl (by decide)))))) (cwV 2 hts gL_fails_X3_giveBack rfl rfl rfl (by decide +kernel) ⟨Nat.le_of_ble_eq_true rfl, Nat.le_of_ble_eq_true rfl⟩) rfl rfl rfl hl.1 rfl (Nat.le_of_ble_eq_true rfl) ⟨Nat.zero_le _, Nat.zero_le _⟩ dL_fails_34 (fun r34 u34 H locs hw34 hP hD hS => ?_)
      try dsimp only at hw34 hP hD
      obtain rfl : r34 = (-1) := hw34.1.trans (congrArg Prod.fst (gbA_n (Or.inl (by decide))))
      have hX34 := hw34.2
      refine lv_iconst (v := (-1)) hx hb dL_fails_37 (by decide) ?_
      refine lv_icmp_ne (tgt := 332) hx hb dL_fails_38 (by decide) (fun c38 => ?_) (fun c38 => ?_)
      · skip
        exfalso
        exact absurd rfl c38
      · skip
        refine lv_aload_n hx hb dL_fails_41 rfl (lv_at hl 2 rfl) ?_
        refine lv_iconst (v := (nI 5)) hx hb dL_fails_42 (by decide) ?_
        refine lv_iconst (v := (nI 4)) hx hb dL_fails_43 (by decide) ?_
        refine cl_VA (b := x0) (As := [.int (nI 5), .int (nI 4)]) (rest := []) F hK hA hP hD hS (cf_giveBack hX34 (neg1 (congrArg Prod.fst (gbA_n (Or.inr (by decide)))))) (cwV 2 hts gL_fails_X3_giveBack rfl rfl rfl (by decide +kernel) ⟨Nat.le_of_ble_eq_true rfl, Nat.le_of_ble_eq_true rfl⟩) rfl rfl rfl hl.1 rfl (Nat.le_of_ble_eq_true rfl) ⟨Nat.zero_le _, Nat.zero_le _⟩ dL_fails_44 (fun r44 u44 H locs hw44 hP hD hS => ?_)
        try dsimp only at hw44 hP hD
        obtain rfl : r44 = (-1) := hw44.1.trans (congrArg Prod.fst (gbA_n (Or.inr (by decide))))
        have hX44 := hw44.2
        refine lv_iconst (v := (-1)) hx hb dL_fails_47 (by decide) ?_
        refine lv_icmp_ne (tgt := 332) hx hb dL_fails_48 (by decide) (fun c48 => ?_) (fun c48 => ?_)
        · skip
          exfalso
          exact absurd rfl c48
        · skip
          refine lv_aload_n hx hb dL_fails_51 rfl (lv_at hl 2 rfl) ?_
          refine lv_iconst (v := (nI 5)) hx hb dL_fails_52 (by decide) ?_
          refine lv_sipush (v := (nI 320)) hx hb dL_fails_53 (by decide) ?_
          refine cl_VA (b := x0) (As := [.int (nI 5), .int (nI 320)]) (rest := []) F hK hA hP hD hS (cf_giveBack hX44 (neg1 (congrArg Prod.fst (gbA_n (Or.inr (by decide)))))) (cwV 2 hts gL_fails_X3_giveBack rfl rfl rfl (by decide +kernel) ⟨Nat.le_of_ble_eq_true rfl, Nat.le_of_ble_eq_true rfl⟩) rfl rfl rfl hl.1 rfl (Nat.le_of_ble_eq_true rfl) ⟨Nat.zero_le _, Nat.zero_le _⟩ dL_fails_56 (fun r56 u56 H locs hw56 hP hD hS => ?_)
          try dsimp only at hw56 hP hD
          obtain rfl : r56 = (-1) := hw56.1.trans (congrArg Prod.fst (gbA_n (Or.inr (by decide))))
          have hX56 := hw56.2
          refine lv_iconst (v := (-1)) hx hb dL_fails_59 (by decide) ?_
          refine lv_icmp_ne (tgt := 332) hx hb dL_fails_60 (by decide) (fun c60 => ?_) (fun c60 => ?_)
          · skip
            exfalso
            exact absurd rfl c60
          · skip
            refine lv_aload_n hx hb dL_fails_63 rfl (lv_at hl 2 rfl) ?_
            refine lv_iconst (v := (nI 0)) hx hb dL_fails_64 (by decide) ?_
            refine cl_VA (b := x0) (As := [.int (nI 0)]) (rest := []) F hK hA hP hD hS (cf_clear hX56 (neg1 (congrArg Prod.fst (clA_n (by decide))))) (cwV 1 hts gL_fails_X3_clear rfl rfl rfl (by decide +kernel) ⟨Nat.le_of_ble_eq_true rfl, Nat.le_of_ble_eq_true rfl⟩) rfl rfl rfl hl.1 rfl (Nat.le_of_ble_eq_true rfl) ⟨Nat.zero_le _, Nat.zero_le _⟩ dL_fails_65 (fun r65 u65 H locs hw65 hP hD hS => ?_)
            try dsimp only at hw65 hP hD
            obtain rfl : r65 = (-1) := hw65.1.trans (congrArg Prod.fst (clA_n (by decide)))
            have hX65 := hw65.2
            refine lv_iconst (v := (-1)) hx hb dL_fails_68 (by decide) ?_
            refine lv_icmp_ne (tgt := 332) hx hb dL_fails_69 (by decide) (fun c69 => ?_) (fun c69 => ?_)
            · skip
              exfalso
              exact absurd rfl c69
            · skip
              refine lv_aload_n hx hb dL_fails_72 rfl (lv_at hl 2 rfl) ?_
              refine lv_bipush (v := (nI 11)) hx hb dL_fails_73 (by decide) ?_
              refine cl_VA (b := x0) (As := [.int (nI 11)]) (rest := []) F hK hA hP hD hS (cf_clear hX65 (neg1 (congrArg Prod.fst (clA_n (by decide))))) (cwV 1 hts gL_fails_X3_clear rfl rfl rfl (by decide +kernel) ⟨Nat.le_of_ble_eq_true rfl, Nat.le_of_ble_eq_true rfl⟩) rfl rfl rfl hl.1 rfl (Nat.le_of_ble_eq_true rfl) ⟨Nat.zero_le _, Nat.zero_le _⟩ dL_fails_75 (fun r75 u75 H locs hw75 hP hD hS => ?_)
              try dsimp only at hw75 hP hD
              obtain rfl : r75 = (-1) := hw75.1.trans (congrArg Prod.fst (clA_n (by decide)))
              have hX75 := hw75.2
              refine lv_iconst (v := (-1)) hx hb dL_fails_78 (by decide) ?_
              refine lv_icmp_ne (tgt := 332) hx hb dL_fails_79 (by decide) (fun c79 => ?_) (fun c79 => ?_)
              · skip
                exfalso
                exact absurd rfl c79
              · skip
                refine lv_aload_n hx hb dL_fails_82 rfl (lv_at hl 2 rfl) ?_
                refine lv_iconst (v := (nI 0)) hx hb dL_fails_83 (by decide) ?_
                refine cl_VA (b := x0) (As := [.int (nI 0)]) (rest := []) F hK hA hP hD hS (cf_reserve hX75 (neg1 (congrArg Prod.fst (rsA_n (by decide))))) (cwV 1 hts gL_fails_X3_reserve rfl rfl rfl (by decide +kernel) ⟨Nat.le_of_ble_eq_true rfl, Nat.le_of_ble_eq_true rfl⟩) rfl rfl rfl hl.1 rfl (Nat.le_of_ble_eq_true rfl) ⟨Nat.zero_le _, Nat.zero_le _⟩ dL_fails_84 (fun r84 u84 H locs hw84 hP hD hS => ?_)
                try dsimp only at hw84 hP hD
                obtain rfl : r84 = (-1) := hw84.1.trans (congrArg Prod.fst (rsA_n (by decide)))
                have hX84 := hw84.2
                refine lv_iconst (v := (-1)) hx hb dL_fails_87 (by decide) ?_
                refine lv_icmp_ne (tgt := 332) hx hb dL_fails_88 (by decide) (fun c88 => ?_) (fun c88 => ?_)
                · skip
                  exfalso
                  exact absurd rfl c88
                · skip
                  refine lv_aload_n hx hb dL_fails_91 rfl (lv_at hl 2 rfl) ?_
                  refine lv_iconst (v := (nI 5)) hx hb dL_fails_92 (by decide) ?_
                  refine cl_VA (b := x0) (As := [.int (nI 5)]) (rest := []) F hK hA hP hD hS (cf_reserve hX84 (neg1 (congrArg Prod.fst (rsA_n (by decide))))) (cwV 1 hts gL_fails_X3_reserve rfl rfl rfl (by decide +kernel) ⟨Nat.le_of_ble_eq_true rfl, Nat.le_of_ble_eq_true rfl⟩) rfl rfl rfl hl.1 rfl (Nat.le_of_ble_eq_true rfl) ⟨Nat.zero_le _, Nat.zero_le _⟩ dL_fails_93 (fun r93 u93 H locs hw93 hP hD hS => ?_)
                  try dsimp only at hw93 hP hD
                  obtain rfl : r93 = (-1) := hw93.1.trans (congrArg Prod.fst (rsA_n (by decide)))
                  have hX93 := hw93.2
                  refine lv_iconst (v := (-1)) hx hb dL_fails_96 (by decide) ?_
                  refine lv_icmp_ne (tgt := 332) hx hb dL_fails_97 (by decide) (fun c97 => ?_) (fun c97 => ?_)
                  · skip
                    exfalso
                    exact absurd rfl c97
                  · skip
                    refine lv_aload_n hx hb dL_fails_100 rfl (lv_at hl 2 rfl) ?_
                    refine lv_bipush (v := (nI 64)) hx hb dL_fails_101 (by decide) ?_
                    refine cl_VA (b := x0) (As := [.int (nI 64)]) (rest := []) F hK hA hP hD hS (cf_reserve hX93 (neg1 (congrArg Prod.fst (rsA_n (by decide))))) (cwV 1 hts gL_fails_X3_reserve rfl rfl rfl (by decide +kernel) ⟨Nat.le_of_ble_eq_true rfl, Nat.le_of_ble_eq_true rfl⟩) rfl rfl rfl hl.1 rfl (Nat.le_of_ble_eq_true rfl) ⟨Nat.zero_le _, Nat.zero_le _⟩ dL_fails_103 (fun r103 u103 H locs hw103 hP hD hS => ?_)
                    try dsimp only at hw103 hP hD
                    obtain rfl : r103 = (-1) := hw103.1.trans (congrArg Prod.fst (rsA_n (by decide)))
                    have hX103 := hw103.2
                    refine lv_iconst (v := (-1)) hx hb dL_fails_106 (by decide) ?_
                    refine lv_icmp_ne (tgt := 332) hx hb dL_fails_107 (by decide) (fun c107 => ?_) (fun c107 => ?_)
                    · skip
                      exfalso
                      exact absurd rfl c107
                    · skip
                      refine lv_aload_n hx hb dL_fails_110 rfl (lv_at hl 2 rfl) ?_
                      refine lv_bipush (v := (nI 8)) hx hb dL_fails_111 (by decide) ?_
                      refine cl_VA (b := x0) (As := [.int (nI 8)]) (rest := []) F hK hA hP hD hS (cf_takeIn hX103 (neg1 (congrArg Prod.fst (tiA_n (isB_n (by decide)))))) (cwV 1 hts gL_fails_X3_takeIn rfl rfl rfl (by decide +kernel) ⟨Nat.le_of_ble_eq_true rfl, Nat.le_of_ble_eq_true rfl⟩) rfl rfl rfl hl.1 rfl (Nat.le_of_ble_eq_true rfl) ⟨Nat.zero_le _, Nat.zero_le _⟩ dL_fails_113 (fun r113 u113 H locs hw113 hP hD hS => ?_)
                      try dsimp only at hw113 hP hD
                      obtain rfl : r113 = (-1) := hw113.1.trans (congrArg Prod.fst (tiA_n (isB_n (by decide))))
                      have hX113 := hw113.2
                      refine lv_iconst (v := (-1)) hx hb dL_fails_116 (by decide) ?_
                      refine lv_icmp_ne (tgt := 332) hx hb dL_fails_117 (by decide) (fun c117 => ?_) (fun c117 => ?_)
                      · skip
                        exfalso
                        exact absurd rfl c117
                      · skip
                        refine lv_aload_n hx hb dL_fails_120 rfl (lv_at hl 2 rfl) ?_
                        refine lv_iconst (v := (-1)) hx hb dL_fails_121 (by decide) ?_
                        refine cl_VA (b := x0) (As := [.int (-1)]) (rest := []) F hK hA hP hD hS (cf_takeIn hX113 (neg1 (congrArg Prod.fst (tiA_n (isB_n (by decide)))))) (cwV 1 hts gL_fails_X3_takeIn rfl rfl rfl (by decide +kernel) ⟨Nat.le_of_ble_eq_true rfl, Nat.le_of_ble_eq_true rfl⟩) rfl rfl rfl hl.1 rfl (Nat.le_of_ble_eq_true rfl) ⟨Nat.zero_le _, Nat.zero_le _⟩ dL_fails_122 (fun r122 u122 H locs hw122 hP hD hS => ?_)
                        try dsimp only at hw122 hP hD
                        obtain rfl : r122 = (-1) := hw122.1.trans (congrArg Prod.fst (tiA_n (isB_n (by decide))))
                        have hX122 := hw122.2
                        refine lv_iconst (v := (-1)) hx hb dL_fails_125 (by decide) ?_
                        refine lv_icmp_ne (tgt := 332) hx hb dL_fails_126 (by decide) (fun c126 => ?_) (fun c126 => ?_)
                        · skip
                          exfalso
                          exact absurd rfl c126
                        · skip
                          refine lv_aload_n hx hb dL_fails_129 rfl (lv_at hl 2 rfl) ?_
                          refine lv_bipush (v := (nI 8)) hx hb dL_fails_130 (by decide) ?_
                          refine cl_VA (b := x0) (As := [.int (nI 8)]) (rest := []) F hK hA hP hD hS (cf_giveUp hX122 (neg1 (congrArg Prod.fst (guA_n (isB_n (by decide)))))) (cwV 1 hts gL_fails_X3_giveUp rfl rfl rfl (by decide +kernel) ⟨Nat.le_of_ble_eq_true rfl, Nat.le_of_ble_eq_true rfl⟩) rfl rfl rfl hl.1 rfl (Nat.le_of_ble_eq_true rfl) ⟨Nat.zero_le _, Nat.zero_le _⟩ dL_fails_132 (fun r132 u132 H locs hw132 hP hD hS => ?_)
                          try dsimp only at hw132 hP hD
                          obtain rfl : r132 = (-1) := hw132.1.trans (congrArg Prod.fst (guA_n (isB_n (by decide))))
                          have hX132 := hw132.2
                          refine lv_iconst (v := (-1)) hx hb dL_fails_135 (by decide) ?_
                          refine lv_icmp_ne (tgt := 332) hx hb dL_fails_136 (by decide) (fun c136 => ?_) (fun c136 => ?_)
                          · skip
                            exfalso
                            exact absurd rfl c136
                          · skip
                            refine lv_aload_n hx hb dL_fails_139 rfl (lv_at hl 2 rfl) ?_
                            refine lv_bipush (v := (nI 10)) hx hb dL_fails_140 (by decide) ?_
                            refine cl_VA (b := x0) (As := [.int (nI 10)]) (rest := []) F hK hA hP hD hS (cf_damage hX132 (neg1 (congrArg Prod.fst (dmA_n (by decide))))) (cwV 1 hts gL_fails_X3_damage rfl rfl rfl (by decide +kernel) ⟨Nat.le_of_ble_eq_true rfl, Nat.le_of_ble_eq_true rfl⟩) rfl rfl rfl hl.1 rfl (Nat.le_of_ble_eq_true rfl) ⟨Nat.zero_le _, Nat.zero_le _⟩ dL_fails_142 (fun r142 u142 H locs hw142 hP hD hS => ?_)
                            try dsimp only at hw142 hP hD
                            obtain rfl : r142 = (-1) := hw142.1.trans (congrArg Prod.fst (dmA_n (by decide)))
                            have hX142 := hw142.2
                            refine lv_iconst (v := (-1)) hx hb dL_fails_145 (by decide) ?_
                            refine lv_icmp_ne (tgt := 332) hx hb dL_fails_146 (by decide) (fun c146 => ?_) (fun c146 => ?_)
                            · skip
                              exfalso
                              exact absurd rfl c146
                            · skip
                              refine lv_aload_n hx hb dL_fails_149 rfl (lv_at hl 2 rfl) ?_
                              refine lv_iconst (v := (-1)) hx hb dL_fails_150 (by decide) ?_
                              refine cl_VA (b := x0) (As := [.int (-1)]) (rest := []) F hK hA hP hD hS (cf_damage hX142 (neg1 (congrArg Prod.fst (dmA_n (by decide))))) (cwV 1 hts gL_fails_X3_damage rfl rfl rfl (by decide +kernel) ⟨Nat.le_of_ble_eq_true rfl, Nat.le_of_ble_eq_true rfl⟩) rfl rfl rfl hl.1 rfl (Nat.le_of_ble_eq_true rfl) ⟨Nat.zero_le _, Nat.zero_le _⟩ dL_fails_151 (fun r151 u151 H locs hw151 hP hD hS => ?_)
                              try dsimp only at hw151 hP hD
                              obtain rfl : r151 = (-1) := hw151.1.trans (congrArg Prod.fst (dmA_n (by decide)))
                              have hX151 := hw151.2
                              refine lv_iconst (v := (-1)) hx hb dL_fails_154 (by decide) ?_
                              refine lv_icmp_ne (tgt := 332) hx hb dL_fails_155 (by decide) (fun c155 => ?_) (fun c155 => ?_)
                              · skip
                                exfalso
                                exact absurd rfl c155
                              · skip
                                refine lv_aload_n hx hb dL_fails_158 rfl (lv_at hl 2 rfl) ?_
                                refine lv_iconst (v := (nI 0)) hx hb dL_fails_159 (by decide) ?_
                                refine cl_VA (b := x0) (As := [.int (nI 0)]) (rest := []) F hK hA hP hD hS (cf_append htl (by decide)) (cwV 1 hts gL_fails_X3_append rfl rfl rfl (by decide +kernel) ⟨Nat.le_of_ble_eq_true rfl, Nat.le_of_ble_eq_true rfl⟩) rfl rfl rfl hl.1 rfl (Nat.le_of_ble_eq_true rfl) ⟨Nat.zero_le _, Nat.zero_le _⟩ dL_fails_160 (fun r160 u160 H locs hw160 hP hD hS => ?_)
                                try dsimp only at hw160 hP hD
                                obtain rfl : r160 = (-1) := hw160
                                refine lv_iconst (v := (-1)) hx hb dL_fails_163 (by decide) ?_
                                refine lv_icmp_ne (tgt := 332) hx hb dL_fails_164 (by decide) (fun c164 => ?_) (fun c164 => ?_)
                                · skip
                                  exfalso
                                  exact absurd rfl c164
                                · skip
                                  refine lv_aload_n hx hb dL_fails_167 rfl (lv_at hl 2 rfl) ?_
                                  refine lv_sipush (v := (nI 256)) hx hb dL_fails_168 (by decide) ?_
                                  refine cl_VA (b := x0) (As := [.int (nI 256)]) (rest := []) F hK hA hP hD hS (cf_append htl (by decide)) (cwV 1 hts gL_fails_X3_append rfl rfl rfl (by decide +kernel) ⟨Nat.le_of_ble_eq_true rfl, Nat.le_of_ble_eq_true rfl⟩) rfl rfl rfl hl.1 rfl (Nat.le_of_ble_eq_true rfl) ⟨Nat.zero_le _, Nat.zero_le _⟩ dL_fails_171 (fun r171 u171 H locs hw171 hP hD hS => ?_)
                                  try dsimp only at hw171 hP hD
                                  obtain rfl : r171 = (-1) := hw171
                                  refine lv_iconst (v := (-1)) hx hb dL_fails_174 (by decide) ?_
                                  refine lv_icmp_ne (tgt := 332) hx hb dL_fails_175 (by decide) (fun c175 => ?_) (fun c175 => ?_)
                                  · skip
                                    exfalso
                                    exact absurd rfl c175
                                  · skip
                                    refine lv_aload_n hx hb dL_fails_178 rfl (lv_at hl 2 rfl) ?_
                                    refine lv_bipush (v := (nI 12)) hx hb dL_fails_179 (by decide) ?_
                                    refine cl_VA (b := x0) (As := [.int (nI 12)]) (rest := []) F hK hA hP hD hS (c_X3_count hX151) (cwV 1 hts gL_fails_X3_count rfl rfl rfl (by decide +kernel) ⟨Nat.le_of_ble_eq_true rfl, Nat.le_of_ble_eq_true rfl⟩) rfl rfl rfl hl.1 rfl (Nat.le_of_ble_eq_true rfl) ⟨Nat.zero_le _, Nat.zero_le _⟩ dL_fails_181 (fun r181 u181 H locs hw181 hP hD hS => ?_)
                                    try dsimp only at hw181 hP hD
                                    obtain rfl : r181 = (-1) := hw181.trans (ctA_n (by decide))
                                    refine lv_iconst (v := (-1)) hx hb dL_fails_184 (by decide) ?_
                                    refine lv_icmp_ne (tgt := 332) hx hb dL_fails_185 (by decide) (fun c185 => ?_) (fun c185 => ?_)
                                    · skip
                                      exfalso
                                      exact absurd rfl c185
                                    · skip
                                      refine lv_aload_n hx hb dL_fails_188 rfl (lv_at hl 2 rfl) ?_
                                      refine lv_iconst (v := (-1)) hx hb dL_fails_189 (by decide) ?_
                                      refine cl_VA (b := x0) (As := [.int (-1)]) (rest := []) F hK hA hP hD hS (c_X3_count hX151) (cwV 1 hts gL_fails_X3_count rfl rfl rfl (by decide +kernel) ⟨Nat.le_of_ble_eq_true rfl, Nat.le_of_ble_eq_true rfl⟩) rfl rfl rfl hl.1 rfl (Nat.le_of_ble_eq_true rfl) ⟨Nat.zero_le _, Nat.zero_le _⟩ dL_fails_190 (fun r190 u190 H locs hw190 hP hD hS => ?_)
                                      try dsimp only at hw190 hP hD
                                      obtain rfl : r190 = (-1) := hw190.trans (ctA_n (by decide))
                                      refine lv_iconst (v := (-1)) hx hb dL_fails_193 (by decide) ?_
                                      refine lv_icmp_ne (tgt := 332) hx hb dL_fails_194 (by decide) (fun c194 => ?_) (fun c194 => ?_)
                                      · skip
                                        exfalso
                                        exact absurd rfl c194
                                      · skip
                                        refine lv_aload_n hx hb dL_fails_197 rfl (lv_at hl 2 rfl) ?_
                                        refine lv_sipush (v := (nI 320)) hx hb dL_fails_198 (by decide) ?_
                                        refine lv_iconst (v := (nI 0)) hx hb dL_fails_201 (by decide) ?_
                                        refine cl_VA (b := x0) (As := [.int (nI 320), .int (nI 0)]) (rest := []) F hK hA hP hD hS (c_X3_slot hX151) (cwV 2 hts gL_fails_X3_slot rfl rfl rfl (by decide +kernel) ⟨Nat.le_of_ble_eq_true rfl, Nat.le_of_ble_eq_true rfl⟩) rfl rfl rfl hl.1 rfl (Nat.le_of_ble_eq_true rfl) ⟨Nat.zero_le _, Nat.zero_le _⟩ dL_fails_202 (fun r202 u202 H locs hw202 hP hD hS => ?_)
                                        try dsimp only at hw202 hP hD
                                        obtain rfl : r202 = (-1) := hw202.trans (slA_n (Or.inl (by decide)))
                                        refine lv_iconst (v := (-1)) hx hb dL_fails_205 (by decide) ?_
                                        refine lv_icmp_ne (tgt := 332) hx hb dL_fails_206 (by decide) (fun c206 => ?_) (fun c206 => ?_)
                                        · skip
                                          exfalso
                                          exact absurd rfl c206
                                        · skip
                                          refine lv_aload_n hx hb dL_fails_209 rfl (lv_at hl 2 rfl) ?_
                                          refine lv_iconst (v := (-1)) hx hb dL_fails_210 (by decide) ?_
                                          refine lv_iconst (v := (nI 0)) hx hb dL_fails_211 (by decide) ?_
                                          refine cl_VA (b := x0) (As := [.int (-1), .int (nI 0)]) (rest := []) F hK hA hP hD hS (c_X3_slot hX151) (cwV 2 hts gL_fails_X3_slot rfl rfl rfl (by decide +kernel) ⟨Nat.le_of_ble_eq_true rfl, Nat.le_of_ble_eq_true rfl⟩) rfl rfl rfl hl.1 rfl (Nat.le_of_ble_eq_true rfl) ⟨Nat.zero_le _, Nat.zero_le _⟩ dL_fails_212 (fun r212 u212 H locs hw212 hP hD hS => ?_)
                                          try dsimp only at hw212 hP hD
                                          obtain rfl : r212 = (-1) := hw212.trans (slA_n (Or.inl (by decide)))
                                          refine lv_iconst (v := (-1)) hx hb dL_fails_215 (by decide) ?_
                                          refine lv_icmp_ne (tgt := 332) hx hb dL_fails_216 (by decide) (fun c216 => ?_) (fun c216 => ?_)
                                          · skip
                                            exfalso
                                            exact absurd rfl c216
                                          · skip
                                            refine lv_aload_n hx hb dL_fails_219 rfl (lv_at hl 2 rfl) ?_
                                            refine lv_iconst (v := (nI 0)) hx hb dL_fails_220 (by decide) ?_
                                            refine lv_iconst (v := (nI 2)) hx hb dL_fails_221 (by decide) ?_
                                            refine cl_VA (b := x0) (As := [.int (nI 0), .int (nI 2)]) (rest := []) F hK hA hP hD hS (c_X3_slot hX151) (cwV 2 hts gL_fails_X3_slot rfl rfl rfl (by decide +kernel) ⟨Nat.le_of_ble_eq_true rfl, Nat.le_of_ble_eq_true rfl⟩) rfl rfl rfl hl.1 rfl (Nat.le_of_ble_eq_true rfl) ⟨Nat.zero_le _, Nat.zero_le _⟩ dL_fails_222 (fun r222 u222 H locs hw222 hP hD hS => ?_)
                                            try dsimp only at hw222 hP hD
                                            obtain rfl : r222 = (-1) := hw222.trans (slA_n (Or.inr (by decide)))
                                            refine lv_iconst (v := (-1)) hx hb dL_fails_225 (by decide) ?_
                                            refine lv_icmp_ne (tgt := 332) hx hb dL_fails_226 (by decide) (fun c226 => ?_) (fun c226 => ?_)
                                            · skip
                                              exfalso
                                              exact absurd rfl c226
                                            · skip
                                              refine lv_aload_n hx hb dL_fails_229 rfl (lv_at hl 2 rfl) ?_
                                              refine lv_bipush (v := (nI 10)) hx hb dL_fails_230 (by decide) ?_
                                              refine lv_iconst (v := (nI 0)) hx hb dL_fails_232 (by decide) ?_
                                              refine cl_VA (b := x0) (As := [.int (nI 10), .int (nI 0)]) (rest := []) F hK hA hP hD hS (c_X3_word hX151) (cwV 2 hts gL_fails_X3_word rfl rfl rfl (by decide +kernel) ⟨Nat.le_of_ble_eq_true rfl, Nat.le_of_ble_eq_true rfl⟩) rfl rfl rfl hl.1 rfl (Nat.le_of_ble_eq_true rfl) ⟨Nat.zero_le _, Nat.zero_le _⟩ dL_fails_233 (fun r233 u233 H locs hw233 hP hD hS => ?_)
                                              try dsimp only at hw233 hP hD
                                              obtain rfl : r233 = (-1) := hw233.trans (wdA_n (Or.inl (by decide)))
                                              refine lv_iconst (v := (-1)) hx hb dL_fails_236 (by decide) ?_
                                              refine lv_icmp_ne (tgt := 332) hx hb dL_fails_237 (by decide) (fun c237 => ?_) (fun c237 => ?_)
                                              · skip
                                                exfalso
                                                exact absurd rfl c237
                                              · skip
                                                refine lv_aload_n hx hb dL_fails_240 rfl (lv_at hl 2 rfl) ?_
                                                refine lv_iconst (v := (nI 0)) hx hb dL_fails_241 (by decide) ?_
                                                refine lv_bipush (v := (nI 7)) hx hb dL_fails_242 (by decide) ?_
                                                refine cl_VA (b := x0) (As := [.int (nI 0), .int (nI 7)]) (rest := []) F hK hA hP hD hS (c_X3_word hX151) (cwV 2 hts gL_fails_X3_word rfl rfl rfl (by decide +kernel) ⟨Nat.le_of_ble_eq_true rfl, Nat.le_of_ble_eq_true rfl⟩) rfl rfl rfl hl.1 rfl (Nat.le_of_ble_eq_true rfl) ⟨Nat.zero_le _, Nat.zero_le _⟩ dL_fails_244 (fun r244 u244 H locs hw244 hP hD hS => ?_)
                                                try dsimp only at hw244 hP hD
                                                obtain rfl : r244 = (-1) := hw244.trans (wdA_n (Or.inr (by decide)))
                                                refine lv_iconst (v := (-1)) hx hb dL_fails_247 (by decide) ?_
                                                refine lv_icmp_ne (tgt := 332) hx hb dL_fails_248 (by decide) (fun c248 => ?_) (fun c248 => ?_)
                                                · skip
                                                  exfalso
                                                  exact absurd rfl c248
                                                · skip
                                                  refine lv_aload_n hx hb dL_fails_251 rfl (lv_at hl 2 rfl) ?_
                                                  refine lv_bipush (v := (nI 8)) hx hb dL_fails_252 (by decide) ?_
                                                  refine lv_iconst (v := (nI 0)) hx hb dL_fails_254 (by decide) ?_
                                                  refine cl_VA (b := x0) (As := [.int (nI 8), .int (nI 0)]) (rest := []) F hK hA hP hD hS (c_X3_block hX151) (cwV 2 hts gL_fails_X3_block rfl rfl rfl (by decide +kernel) ⟨Nat.le_of_ble_eq_true rfl, Nat.le_of_ble_eq_true rfl⟩) rfl rfl rfl hl.1 rfl (Nat.le_of_ble_eq_true rfl) ⟨Nat.zero_le _, Nat.zero_le _⟩ dL_fails_255 (fun r255 u255 H locs hw255 hP hD hS => ?_)
                                                  try dsimp only at hw255 hP hD
                                                  obtain rfl : r255 = (-1) := hw255.trans (bkA_n (Or.inl (by decide)))
                                                  refine lv_iconst (v := (-1)) hx hb dL_fails_258 (by decide) ?_
                                                  refine lv_icmp_ne (tgt := 332) hx hb dL_fails_259 (by decide) (fun c259 => ?_) (fun c259 => ?_)
                                                  · skip
                                                    exfalso
                                                    exact absurd rfl c259
                                                  · skip
                                                    refine lv_aload_n hx hb dL_fails_262 rfl (lv_at hl 2 rfl) ?_
                                                    refine lv_iconst (v := (nI 0)) hx hb dL_fails_263 (by decide) ?_
                                                    refine lv_iconst (v := (nI 4)) hx hb dL_fails_264 (by decide) ?_
                                                    refine cl_VA (b := x0) (As := [.int (nI 0), .int (nI 4)]) (rest := []) F hK hA hP hD hS (c_X3_block hX151) (cwV 2 hts gL_fails_X3_block rfl rfl rfl (by decide +kernel) ⟨Nat.le_of_ble_eq_true rfl, Nat.le_of_ble_eq_true rfl⟩) rfl rfl rfl hl.1 rfl (Nat.le_of_ble_eq_true rfl) ⟨Nat.zero_le _, Nat.zero_le _⟩ dL_fails_265 (fun r265 u265 H locs hw265 hP hD hS => ?_)
                                                    try dsimp only at hw265 hP hD
                                                    obtain rfl : r265 = (-1) := hw265.trans (bkA_n (Or.inr (by decide)))
                                                    refine lv_iconst (v := (-1)) hx hb dL_fails_268 (by decide) ?_
                                                    refine lv_icmp_ne (tgt := 332) hx hb dL_fails_269 (by decide) (fun c269 => ?_) (fun c269 => ?_)
                                                    · skip
                                                      exfalso
                                                      exact absurd rfl c269
                                                    · skip
                                                      refine lv_aload_n hx hb dL_fails_272 rfl (lv_at hl 2 rfl) ?_
                                                      refine lv_iconst (v := (nI 3)) hx hb dL_fails_273 (by decide) ?_
                                                      refine cl_VA (b := x0) (As := [.int (nI 3)]) (rest := []) F hK hA hP hD hS (c_X3_audit hX151) (cwV 1 hts gL_fails_X3_audit rfl rfl rfl (by decide +kernel) ⟨Nat.le_of_ble_eq_true rfl, Nat.le_of_ble_eq_true rfl⟩) rfl rfl rfl hl.1 rfl (Nat.le_of_ble_eq_true rfl) ⟨Nat.zero_le _, Nat.zero_le _⟩ dL_fails_274 (fun r274 u274 H locs hw274 hP hD hS => ?_)
                                                      try dsimp only at hw274 hP hD
                                                      obtain rfl : r274 = (-1) := hw274.trans (adA_n (by decide))
                                                      refine lv_iconst (v := (-1)) hx hb dL_fails_277 (by decide) ?_
                                                      refine lv_icmp_ne (tgt := 332) hx hb dL_fails_278 (by decide) (fun c278 => ?_) (fun c278 => ?_)
                                                      · skip
                                                        exfalso
                                                        exact absurd rfl c278
                                                      · skip
                                                        refine lv_aload_n hx hb dL_fails_281 rfl (lv_at hl 2 rfl) ?_
                                                        refine lv_iconst (v := (nI 3)) hx hb dL_fails_282 (by decide) ?_
                                                        refine cl_VA (b := x0) (As := [.int (nI 3)]) (rest := []) F hK hA hP hD hS (c_X3_next hX151) (cwV 1 hts gL_fails_X3_next rfl rfl rfl (by decide +kernel) ⟨Nat.le_of_ble_eq_true rfl, Nat.le_of_ble_eq_true rfl⟩) rfl rfl rfl hl.1 rfl (Nat.le_of_ble_eq_true rfl) ⟨Nat.zero_le _, Nat.zero_le _⟩ dL_fails_283 (fun r283 u283 H locs hw283 hP hD hS => ?_)
                                                        try dsimp only at hw283 hP hD
                                                        obtain rfl : r283 = (-1) := hw283.trans (nxA_n (by decide))
                                                        refine lv_iconst (v := (-1)) hx hb dL_fails_286 (by decide) ?_
                                                        refine lv_icmp_ne (tgt := 332) hx hb dL_fails_287 (by decide) (fun c287 => ?_) (fun c287 => ?_)
                                                        · skip
                                                          exfalso
                                                          exact absurd rfl c287
                                                        · skip
                                                          refine lv_aload_n hx hb dL_fails_290 rfl (lv_at hl 2 rfl) ?_
                                                          refine lv_iconst (v := (-1)) hx hb dL_fails_291 (by decide) ?_
                                                          refine cl_VA (b := x0) (As := [.int (-1)]) (rest := []) F hK hA hP hD hS (c_X3_next hX151) (cwV 1 hts gL_fails_X3_next rfl rfl rfl (by decide +kernel) ⟨Nat.le_of_ble_eq_true rfl, Nat.le_of_ble_eq_true rfl⟩) rfl rfl rfl hl.1 rfl (Nat.le_of_ble_eq_true rfl) ⟨Nat.zero_le _, Nat.zero_le _⟩ dL_fails_292 (fun r292 u292 H locs hw292 hP hD hS => ?_)
                                                          try dsimp only at hw292 hP hD
                                                          obtain rfl : r292 = (-1) := hw292.trans (nxA_n (by decide))
                                                          refine lv_iconst (v := (-1)) hx hb dL_fails_295 (by decide) ?_
                                                          refine lv_icmp_ne (tgt := 332) hx hb dL_fails_296 (by decide) (fun c296 => ?_) (fun c296 => ?_)
                                                          · skip
                                                            exfalso
                                                            exact absurd rfl c296
                                                          · skip
                                                            refine lv_aload_n hx hb dL_fails_299 rfl (lv_at hl 2 rfl) ?_
                                                            refine lv_iconst (v := (nI 0)) hx hb dL_fails_300 (by decide) ?_
                                                            refine cl_VA (b := x0) (As := [.int (nI 0)]) (rest := []) F hK hA hP hD hS (c_X3_runAt hX151) (cwV 1 hts gL_fails_X3_runAt rfl rfl rfl (by decide +kernel) ⟨Nat.le_of_ble_eq_true rfl, Nat.le_of_ble_eq_true rfl⟩) rfl rfl rfl hl.1 rfl (Nat.le_of_ble_eq_true rfl) ⟨Nat.zero_le _, Nat.zero_le _⟩ dL_fails_301 (fun r301 u301 H locs hw301 hP hD hS => ?_)
                                                            try dsimp only at hw301 hP hD
                                                            obtain rfl : r301 = (-1) := hw301.trans (raA_n (by decide))
                                                            refine lv_iconst (v := (-1)) hx hb dL_fails_304 (by decide) ?_
                                                            refine lv_icmp_ne (tgt := 332) hx hb dL_fails_305 (by decide) (fun c305 => ?_) (fun c305 => ?_)
                                                            · skip
                                                              exfalso
                                                              exact absurd rfl c305
                                                            · skip
                                                              refine lv_aload_n hx hb dL_fails_308 rfl (lv_at hl 2 rfl) ?_
                                                              refine lv_bipush (v := (nI 65)) hx hb dL_fails_309 (by decide) ?_
                                                              refine cl_VA (b := x0) (As := [.int (nI 65)]) (rest := []) F hK hA hP hD hS (c_X3_runAt hX151) (cwV 1 hts gL_fails_X3_runAt rfl rfl rfl (by decide +kernel) ⟨Nat.le_of_ble_eq_true rfl, Nat.le_of_ble_eq_true rfl⟩) rfl rfl rfl hl.1 rfl (Nat.le_of_ble_eq_true rfl) ⟨Nat.zero_le _, Nat.zero_le _⟩ dL_fails_311 (fun r311 u311 H locs hw311 hP hD hS => ?_)
                                                              try dsimp only at hw311 hP hD
                                                              obtain rfl : r311 = (-1) := hw311.trans (raA_n (by decide))
                                                              refine lv_iconst (v := (-1)) hx hb dL_fails_314 (by decide) ?_
                                                              refine lv_icmp_ne (tgt := 332) hx hb dL_fails_315 (by decide) (fun c315 => ?_) (fun c315 => ?_)
                                                              · skip
                                                                exfalso
                                                                exact absurd rfl c315
                                                              · skip
                                                                refine lv_aload_n hx hb dL_fails_318 rfl (lv_at hl 2 rfl) ?_
                                                                refine lv_bipush (v := (nI 12)) hx hb dL_fails_319 (by decide) ?_
                                                                refine cl_VA (b := x0) (As := [.int (nI 12)]) (rest := []) F hK hA hP hD hS (c_X3_placeFor hX151) (cwV 1 hts gL_fails_X3_placeFor rfl rfl rfl (by decide +kernel) ⟨Nat.le_of_ble_eq_true rfl, Nat.le_of_ble_eq_true rfl⟩) rfl rfl rfl hl.1 rfl (Nat.le_of_ble_eq_true rfl) ⟨Nat.zero_le _, Nat.zero_le _⟩ dL_fails_321 (fun r321 u321 H locs hw321 hP hD hS => ?_)
                                                                try dsimp only at hw321 hP hD
                                                                obtain rfl : r321 = (-1) := hw321.trans (pfA_n (by decide))
                                                                refine lv_iconst (v := (-1)) hx hb dL_fails_324 (by decide) ?_
                                                                refine lv_icmp_ne (tgt := 332) hx hb dL_fails_325 (by decide) (fun c325 => ?_) (fun c325 => ?_)
                                                                · skip
                                                                  exfalso
                                                                  exact absurd rfl c325
                                                                · skip
                                                                  refine lv_iconst (v := (nI 1)) hx hb dL_fails_328 (by decide) ?_
                                                                  refine lv_goto (tgt := 333) hx hb dL_fails_329 (by decide) ?_
                                                                  refine lv_istore (lv' := [(4, .int (nI 1)), (3, .int (nI k)), (1, .long (mkF now)), (0, .ref x0)]) hx hb dL_fails_333 hl (by decide) rfl (fun ls hl => ?_)
                                                                  refine lv_iconst (v := (nI 0)) hx hb dL_fails_335 (by decide) ?_
                                                                  refine lv_istore (lv' := [(5, .int (nI 0)), (4, .int (nI 1)), (3, .int (nI k)), (1, .long (mkF now)), (0, .ref x0)]) hx hb dL_fails_336 hl (by decide) rfl (fun ls hl => ?_)
                                                                  have LP338 : ∀ (nn : Nat) (VV : Nat → Nat → Nat → Int32) (on : Nat) (TV : Nat → Nat → Int32) (b : Nat) (H : Heap) (locs : List Loc) (ls : Array Slot), (b ≤ 8) → (XI now past k on VV) → 8 - b < nn → va_P D vwCl (XW aa x0 x1 x2 pp tt cI cG cC cR VV TV tex pf tl on k) H → va_D A0 (XW aa x0 x1 x2 pp tt cI cG cC cR VV TV tex pf tl on k) → va_S A0 s0.heap H locs → lv_has ls 6 [(5, .int (nI b)), (4, .int (nI 1)), (3, .int (nI k)), (1, .long (mkF now)), (0, .ref x0)] → W P0 l e0 { frames := 6, cells := 0, slots := 0, locals := 141 } s0 m0 a0 b0 t0 c0 H locs 0 0 Q0 (F0 m0 338 ls []) := by
                                                                    intro nn
                                                                    induction nn with
                                                                    | zero => intro VV on TV b H locs ls hb9 hX hmu; exact absurd hmu (Nat.not_lt_zero _)
                                                                    | succ nn ih338 =>
                                                                      intro VV on TV b H locs ls hb9 hX hmu338 hP hD hS hl
                                                                      refine lv_iload hx hb dL_fails_338 (lv_at hl 0 rfl) ?_
                                                                      refine lv_bipush (v := (nI 8)) hx hb dL_fails_340 (by decide) ?_
                                                                      refine lv_icmp_ge (tgt := 405) hx hb dL_fails_342 (by decide) (fun c342 => ?_) (fun c342 => ?_)
                                                                      · skip
                                                                        replace c342 : 8 ≤ b := by rw [nI_leI (by omega) (by omega)] at c342; try exact c342
                                                                        refine lv_iload hx hb dL_fails_405 (lv_at hl 1 rfl) ?_
                                                                        refine lv_if_eq (tgt := 433) hx hb dL_fails_407 (by decide) (fun c407 => ?_) (fun c407 => ?_)
                                                                        · skip
                                                                          exfalso
                                                                          exact absurd c407 (by decide)
                                                                        · skip
                                                                          refine lv_aload_n hx hb dL_fails_410 rfl (lv_at hl 4 rfl) ?_
                                                                          refine cl_SL (As := [.ref x0]) (rest := []) F hK hA hP hD hS (c_L_mark hX) (va_cwS 1 hts gL_fails_L_mark rfl rfl rfl (by decide +kernel) ⟨Nat.le_of_ble_eq_true rfl, Nat.le_of_ble_eq_true rfl⟩) rfl hl.1 rfl (Nat.le_of_ble_eq_true rfl) ⟨Nat.zero_le _, Nat.zero_le _⟩ dL_fails_411 (fun r411 u411 H locs hw411 hP hD hS => ?_)
                                                                          try dsimp only at hw411 hP hD
                                                                          obtain rfl : r411 = (mkF now) := hw411
                                                                          refine lv_lload_n hx hb dL_fails_414 rfl (lv_at hl 3 rfl) ?_
                                                                          refine W.lcmp hx hb dL_fails_415 ?_
                                                                          refine n_lcmp0 ?_
                                                                          refine lv_if_ne (tgt := 433) hx hb dL_fails_416 (by decide) (fun c416 => ?_) (fun c416 => ?_)
                                                                          · skip
                                                                            exfalso
                                                                            exact absurd c416 (by decide)
                                                                          · skip
                                                                            refine lv_aload_n hx hb dL_fails_419 rfl (lv_at hl 4 rfl) ?_
                                                                            refine lv_bipush (v := (nI 10)) hx hb dL_fails_420 (by decide) ?_
                                                                            refine cl_VA (b := x0) (As := [.int (nI 10)]) (rest := []) F hK hA hP hD hS (c_X3_count hX) (cwV 1 hts gL_fails_X3_count rfl rfl rfl (by decide +kernel) ⟨Nat.le_of_ble_eq_true rfl, Nat.le_of_ble_eq_true rfl⟩) rfl rfl rfl hl.1 rfl (Nat.le_of_ble_eq_true rfl) ⟨Nat.zero_le _, Nat.zero_le _⟩ dL_fails_422 (fun r422 u422 H locs hw422 hP hD hS => ?_)
                                                                            try dsimp only at hw422 hP hD
                                                                            obtain rfl : r422 = (nI k) := by rw [hw422, ctA_j (by decide)]; rfl
                                                                            refine lv_iload_n hx hb dL_fails_425 rfl (lv_at hl 2 rfl) ?_
                                                                            refine lv_icmp_ne (tgt := 433) hx hb dL_fails_426 (by decide) (fun c426 => ?_) (fun c426 => ?_)
                                                                            · skip
                                                                              replace c426 : ¬ k = k := by rw [nI_eq (by omega) (by omega)] at c426; try exact c426
                                                                              exfalso
                                                                              exact absurd rfl c426
                                                                            · skip
                                                                              replace c426 : k = k := by rw [nI_eq (by omega) (by omega)] at c426; try exact c426
                                                                              refine lv_iconst (v := (nI 1)) hx hb dL_fails_429 (by decide) ?_
                                                                              refine lv_goto (tgt := 434) hx hb dL_fails_430 (by decide) ?_
                                                                              exact RETN _ _ (nI 1) (VV, on, TV) _ _ dL_fails_434 rfl (⟨rfl, hX⟩) hP hD hS
                                                                      · skip
                                                                        replace c342 : ¬ (8 ≤ b) := by rw [nI_leI (by omega) (by omega)] at c342; try exact c342
                                                                        refine lv_iload hx hb dL_fails_345 (lv_at hl 1 rfl) ?_
                                                                        refine lv_if_eq (tgt := 396) hx hb dL_fails_347 (by decide) (fun c347 => ?_) (fun c347 => ?_)
                                                                        · skip
                                                                          exfalso
                                                                          exact absurd c347 (by decide)
                                                                        · skip
                                                                          cases hib : isB now (nI b) with
                                                                          | false =>
                                                                            skip
                                                                            refine lv_aload_n hx hb dL_fails_350 rfl (lv_at hl 4 rfl) ?_
                                                                            refine lv_iload hx hb dL_fails_351 (lv_at hl 0 rfl) ?_
                                                                            refine lv_iconst (v := (nI 0)) hx hb dL_fails_353 (by decide) ?_
                                                                            refine cl_VA (b := x0) (As := [.int (nI b), .int (nI 0)]) (rest := []) F hK hA hP hD hS (c_X3_block hX) (cwV 2 hts gL_fails_X3_block rfl rfl rfl (by decide +kernel) ⟨Nat.le_of_ble_eq_true rfl, Nat.le_of_ble_eq_true rfl⟩) rfl rfl rfl hl.1 rfl (Nat.le_of_ble_eq_true rfl) ⟨Nat.zero_le _, Nat.zero_le _⟩ dL_fails_354 (fun r354 u354 H locs hw354 hP hD hS => ?_)
                                                                            try dsimp only at hw354 hP hD
                                                                            obtain rfl : r354 = (-9) := hw354.trans (bkA_9 (by omega) (by decide) hib)
                                                                            refine lv_if_ge (tgt := 392) hx hb dL_fails_357 (by decide) (fun c357 => ?_) (fun c357 => ?_)
                                                                            · skip
                                                                              exfalso
                                                                              exact absurd c357 (by decide)
                                                                            · skip
                                                                              refine lv_aload_n hx hb dL_fails_360 rfl (lv_at hl 4 rfl) ?_
                                                                              refine lv_iload hx hb dL_fails_361 (lv_at hl 0 rfl) ?_
                                                                              refine lv_iconst (v := (nI 0)) hx hb dL_fails_363 (by decide) ?_
                                                                              refine cl_VA (b := x0) (As := [.int (nI b), .int (nI 0)]) (rest := []) F hK hA hP hD hS (c_X3_block hX) (cwV 2 hts gL_fails_X3_block rfl rfl rfl (by decide +kernel) ⟨Nat.le_of_ble_eq_true rfl, Nat.le_of_ble_eq_true rfl⟩) rfl rfl rfl hl.1 rfl (Nat.le_of_ble_eq_true rfl) ⟨Nat.zero_le _, Nat.zero_le _⟩ dL_fails_364 (fun r364 u364 H locs hw364 hP hD hS => ?_)
                                                                              try dsimp only at hw364 hP hD
                                                                              obtain rfl : r364 = (-9) := hw364.trans (bkA_9 (by omega) (by decide) hib)
                                                                              refine lv_bipush (v := (-9)) hx hb dL_fails_367 (by decide) ?_
                                                                              refine lv_icmp_ne (tgt := 396) hx hb dL_fails_369 (by decide) (fun c369 => ?_) (fun c369 => ?_)
                                                                              · skip
                                                                                exfalso
                                                                                exact absurd rfl c369
                                                                              · skip
                                                                                refine lv_aload_n hx hb dL_fails_372 rfl (lv_at hl 4 rfl) ?_
                                                                                refine lv_iload hx hb dL_fails_373 (lv_at hl 0 rfl) ?_
                                                                                refine cl_VA (b := x0) (As := [.int (nI b)]) (rest := []) F hK hA hP hD hS (cf_takeIn hX (neg1 (congrArg Prod.fst (tiA_n hib)))) (cwV 1 hts gL_fails_X3_takeIn rfl rfl rfl (by decide +kernel) ⟨Nat.le_of_ble_eq_true rfl, Nat.le_of_ble_eq_true rfl⟩) rfl rfl rfl hl.1 rfl (Nat.le_of_ble_eq_true rfl) ⟨Nat.zero_le _, Nat.zero_le _⟩ dL_fails_375 (fun r375 u375 H locs hw375 hP hD hS => ?_)
                                                                                try dsimp only at hw375 hP hD
                                                                                obtain rfl : r375 = (-1) := hw375.1.trans (congrArg Prod.fst (tiA_n hib))
                                                                                have hX375 := hw375.2
                                                                                refine lv_iconst (v := (-1)) hx hb dL_fails_378 (by decide) ?_
                                                                                refine lv_icmp_ne (tgt := 396) hx hb dL_fails_379 (by decide) (fun c379 => ?_) (fun c379 => ?_)
                                                                                · skip
                                                                                  exfalso
                                                                                  exact absurd rfl c379
                                                                                · skip
                                                                                  refine lv_aload_n hx hb dL_fails_382 rfl (lv_at hl 4 rfl) ?_
                                                                                  refine lv_iload hx hb dL_fails_383 (lv_at hl 0 rfl) ?_
                                                                                  refine cl_VA (b := x0) (As := [.int (nI b)]) (rest := []) F hK hA hP hD hS (cf_giveUp hX375 (neg1 (congrArg Prod.fst (guA_n hib)))) (cwV 1 hts gL_fails_X3_giveUp rfl rfl rfl (by decide +kernel) ⟨Nat.le_of_ble_eq_true rfl, Nat.le_of_ble_eq_true rfl⟩) rfl rfl rfl hl.1 rfl (Nat.le_of_ble_eq_true rfl) ⟨Nat.zero_le _, Nat.zero_le _⟩ dL_fails_385 (fun r385 u385 H locs hw385 hP hD hS => ?_)
                                                                                  try dsimp only at hw385 hP hD
                                                                                  obtain rfl : r385 = (-1) := hw385.1.trans (congrArg Prod.fst (guA_n hib))
                                                                                  have hX385 := hw385.2
                                                                                  refine lv_iconst (v := (-1)) hx hb dL_fails_388 (by decide) ?_
                                                                                  refine lv_icmp_ne (tgt := 396) hx hb dL_fails_389 (by decide) (fun c389 => ?_) (fun c389 => ?_)
                                                                                  · skip
                                                                                    exfalso
                                                                                    exact absurd rfl c389
                                                                                  · skip
                                                                                    refine lv_iconst (v := (nI 1)) hx hb dL_fails_392 (by decide) ?_
                                                                                    refine lv_goto (tgt := 397) hx hb dL_fails_393 (by decide) ?_
                                                                                    refine lv_istore (lv' := [(4, .int (nI 1)), (5, .int (nI b)), (3, .int (nI k)), (1, .long (mkF now)), (0, .ref x0)]) hx hb dL_fails_397 hl (by decide) rfl (fun ls hl => ?_)
                                                                                    refine lv_iinc (v := (nI (b + 1))) (lv' := [(5, .int (nI (b + 1))), (4, .int (nI 1)), (3, .int (nI k)), (1, .long (mkF now)), (0, .ref x0)]) hx hb dL_fails_399 hl (k := 1) rfl (n_inc1 _) (by decide) rfl (fun ls hl => ?_)
                                                                                    refine lv_goto (tgt := 338) hx hb dL_fails_402 (by decide) ?_
                                                                                    exact ih338 u385.1 u385.2 TV (b + 1) _ _ _ (by omega) (hX385) (by omega) hP hD hS (lv_sub hl [0, 1, 2, 3, 4] rfl)
                                                                          | true =>
                                                                            obtain ⟨p, z, hp, hz, hok, hmod, hpz⟩ := kB b (by omega) (of_decide_eq_true (by rw [← isB_i (by omega)]; exact hib))
                                                                            have hzl := okz_le hok
                                                                            refine lv_aload_n hx hb dL_fails_350 rfl (lv_at hl 4 rfl) ?_
                                                                            refine lv_iload hx hb dL_fails_351 (lv_at hl 0 rfl) ?_
                                                                            refine lv_iconst (v := (nI 0)) hx hb dL_fails_353 (by decide) ?_
                                                                            refine cl_VA (b := x0) (As := [.int (nI b), .int (nI 0)]) (rest := []) F hK hA hP hD hS (c_X3_block hX) (cwV 2 hts gL_fails_X3_block rfl rfl rfl (by decide +kernel) ⟨Nat.le_of_ble_eq_true rfl, Nat.le_of_ble_eq_true rfl⟩) rfl rfl rfl hl.1 rfl (Nat.le_of_ble_eq_true rfl) ⟨Nat.zero_le _, Nat.zero_le _⟩ dL_fails_354 (fun r354 u354 H locs hw354 hP hD hS => ?_)
                                                                            try dsimp only at hw354 hP hD
                                                                            obtain rfl : r354 = (nI p) := by rw [hw354, bkA_j (by omega) (by decide) hib hp hz hpz]; rfl
                                                                            refine lv_if_ge (tgt := 392) hx hb dL_fails_357 (by decide) (fun c357 => ?_) (fun c357 => ?_)
                                                                            · skip
                                                                              replace c357 : 0 ≤ p := by rw [show (0 : Int32) = nI 0 from rfl, nI_leI (by omega) (by omega)] at c357; try exact c357
                                                                              refine lv_iconst (v := (nI 1)) hx hb dL_fails_392 (by decide) ?_
                                                                              refine lv_goto (tgt := 397) hx hb dL_fails_393 (by decide) ?_
                                                                              refine lv_istore (lv' := [(4, .int (nI 1)), (5, .int (nI b)), (3, .int (nI k)), (1, .long (mkF now)), (0, .ref x0)]) hx hb dL_fails_397 hl (by decide) rfl (fun ls hl => ?_)
                                                                              refine lv_iinc (v := (nI (b + 1))) (lv' := [(5, .int (nI (b + 1))), (4, .int (nI 1)), (3, .int (nI k)), (1, .long (mkF now)), (0, .ref x0)]) hx hb dL_fails_399 hl (k := 1) rfl (n_inc1 _) (by decide) rfl (fun ls hl => ?_)
                                                                              refine lv_goto (tgt := 338) hx hb dL_fails_402 (by decide) ?_
                                                                              exact ih338 VV on TV (b + 1) _ _ _ (by omega) (hX) (by omega) hP hD hS (lv_sub hl [0, 1, 2, 3, 4] rfl)
                                                                            · skip
                                                                              replace c357 : ¬ (0 ≤ p) := by rw [show (0 : Int32) = nI 0 from rfl, nI_leI (by omega) (by omega)] at c357; try exact c357
                                                                              exfalso
                                                                              omega
                                                                  exact LP338 _ u151.1 u151.2 u292 0 _ _ _ (by omega) (hX151) (Nat.lt_succ_self _) hP hD hS (lv_sub hl [0, 1, 2, 3, 4] rfl)
