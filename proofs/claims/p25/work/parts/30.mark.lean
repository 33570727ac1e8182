theorem mkI_0 (g : Nat → Int64 → Int64) (h : Int64) : mkI g 0 h = h := rfl
theorem mkF_is {f : Nat → Int32} {v : Int64} (h : v = mkI (mk4 f) 8 (mkI (mk3 f) 10 (mkI (mk2 f) 320 (mkI (mk1 f) 10 (17))))) : v = mkF f := by unfold mkF; exact h
set_option maxHeartbeats 40000000 in
set_option maxRecDepth 100000 in
theorem c_L_mark {l : Launch} {D : va_G} {cI cG cC cR : ClassId} {aa : Nat → Nat → Nat} {x0 x1 x2 pp tt tl on k : Nat} {pf : Nat → Nat} {VV : Nat → Nat → Nat → Int32} {TV : Nat → Nat → Int32} {tex now past : Nat → Int32} (hX : XI now past k on VV) : CtL l yL_mark wsL_mark { frames := 5, cells := 0, slots := 0, locals := 114 } D (TY cI cG cC cR) [.ref x0] (XW aa x0 x1 x2 pp tt cI cG cC cR VV TV tex pf tl on k) (fun (_ : Unit) => XW aa x0 x1 x2 pp tt cI cG cC cR VV TV tex pf tl on k) (fun (r : Int64) (_ : Unit) => r = mkF now) := by
  refine CtL.of (cc := cL_mark) (maxL := 4) (by decide) rfl (Nat.le_of_ble_eq_true rfl) ?_
  intro P0 e0 s0 m0 a0 b0 t0 c0 A0 Q0 ls F hK hP hD hA RETN hl
  obtain ⟨hx, hb, hml, hown, hts⟩ := id F
  have hS : va_S A0 s0.heap s0.heap [] := va_S.rf
  have hl : lv_has ls 4 [(0, .ref x0)] := hl
  refine lv_ldc2 (v := 17) hx hb hown (hts (.constantLong RL 9 (17)) (by decide +kernel)) dL_mark_0 ?_
  refine lv_lstore_n (lv' := [(1, .long 17), (0, .ref x0)]) hx hb dL_mark_3 rfl hl (by decide) rfl (fun ls hl => ?_)
  refine lv_iconst (v := (nI 0)) hx hb dL_mark_4 (by decide) ?_
  refine lv_istore_n (lv' := [(3, .int (nI 0)), (1, .long 17), (0, .ref x0)]) hx hb dL_mark_5 rfl hl (by decide) rfl (fun ls hl => ?_)
  have LP6 : ∀ (nn : Nat) (v1 : Int64) (i1 : Nat) (H : Heap) (locs : List Loc) (ls : Array Slot), (i1 ≤ 10) → (v1 = mkI (mk1 now) i1 (17)) → 10 - i1 < nn → va_P D vwCl (XW aa x0 x1 x2 pp tt cI cG cC cR VV TV tex pf tl on k) H → va_D A0 (XW aa x0 x1 x2 pp tt cI cG cC cR VV TV tex pf tl on k) → va_S A0 s0.heap H locs → lv_has ls 4 [(3, .int (nI i1)), (1, .long v1), (0, .ref x0)] → W P0 l e0 { frames := 5, cells := 0, slots := 0, locals := 114 } s0 m0 a0 b0 t0 c0 H locs 0 0 Q0 (F0 m0 6 ls []) := by
    intro nn
    induction nn with
    | zero => intro v1 i1 H locs ls hi1 hv1 hmu; exact absurd hmu (Nat.not_lt_zero _)
    | succ nn ih6 =>
      intro v1 i1 H locs ls hi1 hv1 hmu6 hP hD hS hl
      refine lv_iload_n hx hb dL_mark_6 rfl (lv_at hl 0 rfl) ?_
      refine lv_bipush (v := (nI 10)) hx hb dL_mark_7 (by decide) ?_
      refine lv_icmp_ge (tgt := 31) hx hb dL_mark_9 (by decide) (fun c9 => ?_) (fun c9 => ?_)
      · skip
        replace c9 : 10 ≤ i1 := by rw [nI_leI (by omega) (by omega)] at c9; try exact c9
        obtain rfl : i1 = 10 := by omega
        refine lv_iconst (v := (nI 0)) hx hb dL_mark_31 (by decide) ?_
        refine lv_istore_n (lv' := [(3, .int (nI 0)), (1, .long v1), (0, .ref x0)]) hx hb dL_mark_32 rfl hl (by decide) rfl (fun ls hl => ?_)
        have LP33 : ∀ (nn : Nat) (v2 : Int64) (i2 : Nat) (H : Heap) (locs : List Loc) (ls : Array Slot), (i2 ≤ 320) → (v2 = mkI (mk2 now) i2 (mkI (mk1 now) 10 (17))) → 320 - i2 < nn → va_P D vwCl (XW aa x0 x1 x2 pp tt cI cG cC cR VV TV tex pf tl on k) H → va_D A0 (XW aa x0 x1 x2 pp tt cI cG cC cR VV TV tex pf tl on k) → va_S A0 s0.heap H locs → lv_has ls 4 [(3, .int (nI i2)), (1, .long v2), (0, .ref x0)] → W P0 l e0 { frames := 5, cells := 0, slots := 0, locals := 114 } s0 m0 a0 b0 t0 c0 H locs 0 0 Q0 (F0 m0 33 ls []) := by
          intro nn
          induction nn with
          | zero => intro v2 i2 H locs ls hi2 hv2 hmu; exact absurd hmu (Nat.not_lt_zero _)
          | succ nn ih33 =>
            intro v2 i2 H locs ls hi2 hv2 hmu33 hP hD hS hl
            refine lv_iload_n hx hb dL_mark_33 rfl (lv_at hl 0 rfl) ?_
            refine lv_sipush (v := (nI 320)) hx hb dL_mark_34 (by decide) ?_
            refine lv_icmp_ge (tgt := 72) hx hb dL_mark_37 (by decide) (fun c37 => ?_) (fun c37 => ?_)
            · skip
              replace c37 : 320 ≤ i2 := by rw [nI_leI (by omega) (by omega)] at c37; try exact c37
              obtain rfl : i2 = 320 := by omega
              refine lv_iconst (v := (nI 0)) hx hb dL_mark_72 (by decide) ?_
              refine lv_istore_n (lv' := [(3, .int (nI 0)), (1, .long v2), (0, .ref x0)]) hx hb dL_mark_73 rfl hl (by decide) rfl (fun ls hl => ?_)
              have LP74 : ∀ (nn : Nat) (v3 : Int64) (i3 : Nat) (H : Heap) (locs : List Loc) (ls : Array Slot), (i3 ≤ 10) → (v3 = mkI (mk3 now) i3 (mkI (mk2 now) 320 (mkI (mk1 now) 10 (17)))) → 10 - i3 < nn → va_P D vwCl (XW aa x0 x1 x2 pp tt cI cG cC cR VV TV tex pf tl on k) H → va_D A0 (XW aa x0 x1 x2 pp tt cI cG cC cR VV TV tex pf tl on k) → va_S A0 s0.heap H locs → lv_has ls 4 [(3, .int (nI i3)), (1, .long v3), (0, .ref x0)] → W P0 l e0 { frames := 5, cells := 0, slots := 0, locals := 114 } s0 m0 a0 b0 t0 c0 H locs 0 0 Q0 (F0 m0 74 ls []) := by
                intro nn
                induction nn with
                | zero => intro v3 i3 H locs ls hi3 hv3 hmu; exact absurd hmu (Nat.not_lt_zero _)
                | succ nn ih74 =>
                  intro v3 i3 H locs ls hi3 hv3 hmu74 hP hD hS hl
                  refine lv_iload_n hx hb dL_mark_74 rfl (lv_at hl 0 rfl) ?_
                  refine lv_bipush (v := (nI 10)) hx hb dL_mark_75 (by decide) ?_
                  refine lv_icmp_ge (tgt := 100) hx hb dL_mark_77 (by decide) (fun c77 => ?_) (fun c77 => ?_)
                  · skip
                    replace c77 : 10 ≤ i3 := by rw [nI_leI (by omega) (by omega)] at c77; try exact c77
                    obtain rfl : i3 = 10 := by omega
                    refine lv_iconst (v := (nI 0)) hx hb dL_mark_100 (by decide) ?_
                    refine lv_istore_n (lv' := [(3, .int (nI 0)), (1, .long v3), (0, .ref x0)]) hx hb dL_mark_101 rfl hl (by decide) rfl (fun ls hl => ?_)
                    have LP102 : ∀ (nn : Nat) (v4 : Int64) (i4 : Nat) (H : Heap) (locs : List Loc) (ls : Array Slot), (i4 ≤ 8) → (v4 = mkI (mk4 now) i4 (mkI (mk3 now) 10 (mkI (mk2 now) 320 (mkI (mk1 now) 10 (17))))) → 8 - i4 < nn → va_P D vwCl (XW aa x0 x1 x2 pp tt cI cG cC cR VV TV tex pf tl on k) H → va_D A0 (XW aa x0 x1 x2 pp tt cI cG cC cR VV TV tex pf tl on k) → va_S A0 s0.heap H locs → lv_has ls 4 [(3, .int (nI i4)), (1, .long v4), (0, .ref x0)] → W P0 l e0 { frames := 5, cells := 0, slots := 0, locals := 114 } s0 m0 a0 b0 t0 c0 H locs 0 0 Q0 (F0 m0 102 ls []) := by
                      intro nn
                      induction nn with
                      | zero => intro v4 i4 H locs ls hi4 hv4 hmu; exact absurd hmu (Nat.not_lt_zero _)
                      | succ nn ih102 =>
                        intro v4 i4 H locs ls hi4 hv4 hmu102 hP hD hS hl
                        refine lv_iload_n hx hb dL_mark_102 rfl (lv_at hl 0 rfl) ?_
                        refine lv_bipush (v := (nI 8)) hx hb dL_mark_103 (by decide) ?_
                        refine lv_icmp_ge (tgt := 140) hx hb dL_mark_105 (by decide) (fun c105 => ?_) (fun c105 => ?_)
                        · skip
                          replace c105 : 8 ≤ i4 := by rw [nI_leI (by omega) (by omega)] at c105; try exact c105
                          obtain rfl : i4 = 8 := by omega
                          refine lv_lload_n hx hb dL_mark_140 rfl (lv_at hl 1 rfl) ?_
                          exact RETN _ _ v4 () _ _ dL_mark_141 (mkF_is hv4) hP hD hS
                        · skip
                          replace c105 : ¬ (8 ≤ i4) := by rw [nI_leI (by omega) (by omega)] at c105; try exact c105
                          refine lv_ldc2 (v := 31) hx hb hown (hts (.constantLong RL 11 (31)) (by decide +kernel)) dL_mark_108 ?_
                          refine lv_ldc2 (v := 31) hx hb hown (hts (.constantLong RL 11 (31)) (by decide +kernel)) dL_mark_111 ?_
                          refine lv_lload_n hx hb dL_mark_114 rfl (lv_at hl 1 rfl) ?_
                          refine lv_lmul hx hb dL_mark_115 ?_
                          refine lv_aload_n hx hb dL_mark_116 rfl (lv_at hl 2 rfl) ?_
                          refine lv_iload_n hx hb dL_mark_117 rfl (lv_at hl 0 rfl) ?_
                          refine lv_iconst (v := (nI 0)) hx hb dL_mark_118 (by decide) ?_
                          refine cl_VA (b := x0) (As := [.int (nI i4), .int (nI 0)]) (rest := [.long (31 * v4), .long 31]) F hK hA hP hD hS (c_X3_block hX) (cwV 2 hts gL_mark_X3_block rfl rfl rfl (by decide +kernel) ⟨Nat.le_of_ble_eq_true rfl, Nat.le_of_ble_eq_true rfl⟩) rfl rfl rfl hl.1 rfl (Nat.le_of_ble_eq_true rfl) ⟨Nat.zero_le _, Nat.zero_le _⟩ dL_mark_119 (fun r119 u119 H locs hw119 hP hD hS => ?_)
                          try dsimp only at hw119 hP hD
                          obtain rfl : r119 = (bkA now (nI i4) (nI 0)) := hw119
                          refine lv_i2l (v := ((bkA now (nI i4) (nI 0))).toInt64) hx hb dL_mark_122 rfl ?_
                          refine lv_ladd hx hb dL_mark_123 ?_
                          refine lv_lmul hx hb dL_mark_124 ?_
                          refine lv_aload_n hx hb dL_mark_125 rfl (lv_at hl 2 rfl) ?_
                          refine lv_iload_n hx hb dL_mark_126 rfl (lv_at hl 0 rfl) ?_
                          refine lv_iconst (v := (nI 1)) hx hb dL_mark_127 (by decide) ?_
                          refine cl_VA (b := x0) (As := [.int (nI i4), .int (nI 1)]) (rest := [.long (31 * ((31 * v4) + (((bkA now (nI i4) (nI 0))).toInt64)))]) F hK hA hP hD hS (c_X3_block hX) (cwV 2 hts gL_mark_X3_block rfl rfl rfl (by decide +kernel) ⟨Nat.le_of_ble_eq_true rfl, Nat.le_of_ble_eq_true rfl⟩) rfl rfl rfl hl.1 rfl (Nat.le_of_ble_eq_true rfl) ⟨Nat.zero_le _, Nat.zero_le _⟩ dL_mark_128 (fun r128 u128 H locs hw128 hP hD hS => ?_)
                          try dsimp only at hw128 hP hD
                          obtain rfl : r128 = (bkA now (nI i4) (nI 1)) := hw128
                          refine lv_i2l (v := ((bkA now (nI i4) (nI 1))).toInt64) hx hb dL_mark_131 rfl ?_
                          refine lv_ladd hx hb dL_mark_132 ?_
                          refine lv_lstore_n (lv' := [(1, .long ((31 * ((31 * v4) + (((bkA now (nI i4) (nI 0))).toInt64))) + (((bkA now (nI i4) (nI 1))).toInt64))), (3, .int (nI i4)), (0, .ref x0)]) hx hb dL_mark_133 rfl hl (by decide) rfl (fun ls hl => ?_)
                          refine lv_iinc (v := (nI (i4 + 1))) (lv' := [(3, .int (nI (i4 + 1))), (1, .long ((31 * ((31 * v4) + (((bkA now (nI i4) (nI 0))).toInt64))) + (((bkA now (nI i4) (nI 1))).toInt64))), (0, .ref x0)]) hx hb dL_mark_134 hl (k := 1) rfl (n_inc1 _) (by decide) rfl (fun ls hl => ?_)
                          refine lv_goto (tgt := 102) hx hb dL_mark_137 (by decide) ?_
                          exact ih102 ((31 * ((31 * v4) + (((bkA now (nI i4) (nI 0))).toInt64))) + (((bkA now (nI i4) (nI 1))).toInt64)) (i4 + 1) _ _ _ (by omega) (by rw [mkI_s, ← hv4]; rfl) (by omega) hP hD hS (lv_sub hl [0, 1, 2] rfl)
                    exact LP102 _ v3 0 _ _ _ (by omega) (hv3.trans (mkI_0 _ _).symm) (Nat.lt_succ_self _) hP hD hS (lv_sub hl [0, 1, 2] rfl)
                  · skip
                    replace c77 : ¬ (10 ≤ i3) := by rw [nI_leI (by omega) (by omega)] at c77; try exact c77
                    refine lv_ldc2 (v := 31) hx hb hown (hts (.constantLong RL 11 (31)) (by decide +kernel)) dL_mark_80 ?_
                    refine lv_lload_n hx hb dL_mark_83 rfl (lv_at hl 1 rfl) ?_
                    refine lv_lmul hx hb dL_mark_84 ?_
                    refine lv_aload_n hx hb dL_mark_85 rfl (lv_at hl 2 rfl) ?_
                    refine lv_iload_n hx hb dL_mark_86 rfl (lv_at hl 0 rfl) ?_
                    refine lv_iconst (v := (nI 4)) hx hb dL_mark_87 (by decide) ?_
                    refine cl_VA (b := x0) (As := [.int (nI i3), .int (nI 4)]) (rest := [.long (31 * v3)]) F hK hA hP hD hS (c_X3_word hX) (cwV 2 hts gL_mark_X3_word rfl rfl rfl (by decide +kernel) ⟨Nat.le_of_ble_eq_true rfl, Nat.le_of_ble_eq_true rfl⟩) rfl rfl rfl hl.1 rfl (Nat.le_of_ble_eq_true rfl) ⟨Nat.zero_le _, Nat.zero_le _⟩ dL_mark_88 (fun r88 u88 H locs hw88 hP hD hS => ?_)
                    try dsimp only at hw88 hP hD
                    obtain rfl : r88 = (wdA now (nI i3) (nI 4)) := hw88
                    refine lv_i2l (v := ((wdA now (nI i3) (nI 4))).toInt64) hx hb dL_mark_91 rfl ?_
                    refine lv_ladd hx hb dL_mark_92 ?_
                    refine lv_lstore_n (lv' := [(1, .long ((31 * v3) + (((wdA now (nI i3) (nI 4))).toInt64))), (3, .int (nI i3)), (0, .ref x0)]) hx hb dL_mark_93 rfl hl (by decide) rfl (fun ls hl => ?_)
                    refine lv_iinc (v := (nI (i3 + 1))) (lv' := [(3, .int (nI (i3 + 1))), (1, .long ((31 * v3) + (((wdA now (nI i3) (nI 4))).toInt64))), (0, .ref x0)]) hx hb dL_mark_94 hl (k := 1) rfl (n_inc1 _) (by decide) rfl (fun ls hl => ?_)
                    refine lv_goto (tgt := 74) hx hb dL_mark_97 (by decide) ?_
                    exact ih74 ((31 * v3) + (((wdA now (nI i3) (nI 4))).toInt64)) (i3 + 1) _ _ _ (by omega) (by rw [mkI_s, ← hv3]; rfl) (by omega) hP hD hS (lv_sub hl [0, 1, 2] rfl)
              exact LP74 _ v2 0 _ _ _ (by omega) (hv2.trans (mkI_0 _ _).symm) (Nat.lt_succ_self _) hP hD hS (lv_sub hl [0, 1, 2] rfl)
            · skip
              replace c37 : ¬ (320 ≤ i2) := by rw [nI_leI (by omega) (by omega)] at c37; try exact c37
              refine lv_ldc2 (v := 31) hx hb hown (hts (.constantLong RL 11 (31)) (by decide +kernel)) dL_mark_40 ?_
              refine lv_ldc2 (v := 31) hx hb hown (hts (.constantLong RL 11 (31)) (by decide +kernel)) dL_mark_43 ?_
              refine lv_lload_n hx hb dL_mark_46 rfl (lv_at hl 1 rfl) ?_
              refine lv_lmul hx hb dL_mark_47 ?_
              refine lv_aload_n hx hb dL_mark_48 rfl (lv_at hl 2 rfl) ?_
              refine lv_iload_n hx hb dL_mark_49 rfl (lv_at hl 0 rfl) ?_
              refine lv_iconst (v := (nI 0)) hx hb dL_mark_50 (by decide) ?_
              refine cl_VA (b := x0) (As := [.int (nI i2), .int (nI 0)]) (rest := [.long (31 * v2), .long 31]) F hK hA hP hD hS (c_X3_slot hX) (cwV 2 hts gL_mark_X3_slot rfl rfl rfl (by decide +kernel) ⟨Nat.le_of_ble_eq_true rfl, Nat.le_of_ble_eq_true rfl⟩) rfl rfl rfl hl.1 rfl (Nat.le_of_ble_eq_true rfl) ⟨Nat.zero_le _, Nat.zero_le _⟩ dL_mark_51 (fun r51 u51 H locs hw51 hP hD hS => ?_)
              try dsimp only at hw51 hP hD
              obtain rfl : r51 = (slA now (nI i2) (nI 0)) := hw51
              refine lv_i2l (v := ((slA now (nI i2) (nI 0))).toInt64) hx hb dL_mark_54 rfl ?_
              refine lv_ladd hx hb dL_mark_55 ?_
              refine lv_lmul hx hb dL_mark_56 ?_
              refine lv_aload_n hx hb dL_mark_57 rfl (lv_at hl 2 rfl) ?_
              refine lv_iload_n hx hb dL_mark_58 rfl (lv_at hl 0 rfl) ?_
              refine lv_iconst (v := (nI 1)) hx hb dL_mark_59 (by decide) ?_
              refine cl_VA (b := x0) (As := [.int (nI i2), .int (nI 1)]) (rest := [.long (31 * ((31 * v2) + (((slA now (nI i2) (nI 0))).toInt64)))]) F hK hA hP hD hS (c_X3_slot hX) (cwV 2 hts gL_mark_X3_slot rfl rfl rfl (by decide +kernel) ⟨Nat.le_of_ble_eq_true rfl, Nat.le_of_ble_eq_true rfl⟩) rfl rfl rfl hl.1 rfl (Nat.le_of_ble_eq_true rfl) ⟨Nat.zero_le _, Nat.zero_le _⟩ dL_mark_60 (fun r60 u60 H locs hw60 hP hD hS => ?_)
              try dsimp only at hw60 hP hD
              obtain rfl : r60 = (slA now (nI i2) (nI 1)) := hw60
              refine lv_i2l (v := ((slA now (nI i2) (nI 1))).toInt64) hx hb dL_mark_63 rfl ?_
              refine lv_ladd hx hb dL_mark_64 ?_
              refine lv_lstore_n (lv' := [(1, .long ((31 * ((31 * v2) + (((slA now (nI i2) (nI 0))).toInt64))) + (((slA now (nI i2) (nI 1))).toInt64))), (3, .int (nI i2)), (0, .ref x0)]) hx hb dL_mark_65 rfl hl (by decide) rfl (fun ls hl => ?_)
              refine lv_iinc (v := (nI (i2 + 1))) (lv' := [(3, .int (nI (i2 + 1))), (1, .long ((31 * ((31 * v2) + (((slA now (nI i2) (nI 0))).toInt64))) + (((slA now (nI i2) (nI 1))).toInt64))), (0, .ref x0)]) hx hb dL_mark_66 hl (k := 1) rfl (n_inc1 _) (by decide) rfl (fun ls hl => ?_)
              refine lv_goto (tgt := 33) hx hb dL_mark_69 (by decide) ?_
              exact ih33 ((31 * ((31 * v2) + (((slA now (nI i2) (nI 0))).toInt64))) + (((slA now (nI i2) (nI 1))).toInt64)) (i2 + 1) _ _ _ (by omega) (by rw [mkI_s, ← hv2]; rfl) (by omega) hP hD hS (lv_sub hl [0, 1, 2] rfl)
        exact LP33 _ v1 0 _ _ _ (by omega) (hv1.trans (mkI_0 _ _).symm) (Nat.lt_succ_self _) hP hD hS (lv_sub hl [0, 1, 2] rfl)
      · skip
        replace c9 : ¬ (10 ≤ i1) := by rw [nI_leI (by omega) (by omega)] at c9; try exact c9
        refine lv_ldc2 (v := 31) hx hb hown (hts (.constantLong RL 11 (31)) (by decide +kernel)) dL_mark_12 ?_
        refine lv_lload_n hx hb dL_mark_15 rfl (lv_at hl 1 rfl) ?_
        refine lv_lmul hx hb dL_mark_16 ?_
        refine lv_aload_n hx hb dL_mark_17 rfl (lv_at hl 2 rfl) ?_
        refine lv_iload_n hx hb dL_mark_18 rfl (lv_at hl 0 rfl) ?_
        refine cl_VA (b := x0) (As := [.int (nI i1)]) (rest := [.long (31 * v1)]) F hK hA hP hD hS (c_X3_count hX) (cwV 1 hts gL_mark_X3_count rfl rfl rfl (by decide +kernel) ⟨Nat.le_of_ble_eq_true rfl, Nat.le_of_ble_eq_true rfl⟩) rfl rfl rfl hl.1 rfl (Nat.le_of_ble_eq_true rfl) ⟨Nat.zero_le _, Nat.zero_le _⟩ dL_mark_19 (fun r19 u19 H locs hw19 hP hD hS => ?_)
        try dsimp only at hw19 hP hD
        obtain rfl : r19 = (ctA now 0 0 (nI i1)) := hw19.trans (ct_any (by omega))
        refine lv_i2l (v := ((ctA now 0 0 (nI i1))).toInt64) hx hb dL_mark_22 rfl ?_
        refine lv_ladd hx hb dL_mark_23 ?_
        refine lv_lstore_n (lv' := [(1, .long ((31 * v1) + (((ctA now 0 0 (nI i1))).toInt64))), (3, .int (nI i1)), (0, .ref x0)]) hx hb dL_mark_24 rfl hl (by decide) rfl (fun ls hl => ?_)
        refine lv_iinc (v := (nI (i1 + 1))) (lv' := [(3, .int (nI (i1 + 1))), (1, .long ((31 * v1) + (((ctA now 0 0 (nI i1))).toInt64))), (0, .ref x0)]) hx hb dL_mark_25 hl (k := 1) rfl (n_inc1 _) (by decide) rfl (fun ls hl => ?_)
        refine lv_goto (tgt := 6) hx hb dL_mark_28 (by decide) ?_
        exact ih6 ((31 * v1) + (((ctA now 0 0 (nI i1))).toInt64)) (i1 + 1) _ _ _ (by omega) (by rw [mkI_s, ← hv1]; rfl) (by omega) hP hD hS (lv_sub hl [0, 1, 2] rfl)
  exact LP6 _ 17 0 _ _ _ (by omega) ((mkI_0 _ _).symm) (Nat.lt_succ_self _) hP hD hS (lv_sub hl [0, 1, 2] rfl)
