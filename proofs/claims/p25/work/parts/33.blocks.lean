set_option maxHeartbeats 40000000 in
set_option maxRecDepth 100000 in
theorem c_L_blocks {l : Launch} {D : va_G} {cI cG cC cR : ClassId} {aa : Nat → Nat → Nat} {x0 x1 x2 pp tt tl on k : Nat} {pf : Nat → Nat} {VV : Nat → Nat → Nat → Int32} {TV : Nat → Nat → Int32} {tex now past : Nat → Int32} (hX : XI now past k on VV) (hK3 : K3 now) : CtI l yL_blocks wsL_blocks { frames := 5, cells := 0, slots := 0, locals := 114 } D (TY cI cG cC cR) [.ref x0] (XW aa x0 x1 x2 pp tt cI cG cC cR VV TV tex pf tl on k) (fun (_ : Unit) => XW aa x0 x1 x2 pp tt cI cG cC cR VV TV tex pf tl on k) (fun (r : Int32) (_ : Unit) => r = nI 1) := by
  refine CtI.of (cc := cL_blocks) (maxL := 9) (ty := .boolean) (by decide) rfl (Nat.le_of_ble_eq_true rfl) ?_
  intro P0 e0 s0 m0 a0 b0 t0 c0 A0 Q0 ls F hK hP hD hA RETN hl
  obtain ⟨hx, hb, hml, hown, hts⟩ := id F
  have hS : va_S A0 s0.heap s0.heap [] := va_S.rf
  have hl : lv_has ls 9 [(0, .ref x0)] := hl
  obtain ⟨hon, hk5, R, hI, hH⟩ := id hX
  obtain ⟨ki, kb, kB, kz, ko⟩ := id hI
  refine lv_iconst (v := (nI 0)) hx hb dL_blocks_0 (by decide) ?_
  refine lv_istore_n (lv' := [(1, .int (nI 0)), (0, .ref x0)]) hx hb dL_blocks_1 rfl hl (by decide) rfl (fun ls hl => ?_)
  refine lv_iconst (v := (nI 0)) hx hb dL_blocks_2 (by decide) ?_
  refine lv_istore_n (lv' := [(2, .int (nI 0)), (1, .int (nI 0)), (0, .ref x0)]) hx hb dL_blocks_3 rfl hl (by decide) rfl (fun ls hl => ?_)
  refine lv_iconst (v := (nI 0)) hx hb dL_blocks_4 (by decide) ?_
  refine lv_istore_n (lv' := [(3, .int (nI 0)), (2, .int (nI 0)), (1, .int (nI 0)), (0, .ref x0)]) hx hb dL_blocks_5 rfl hl (by decide) rfl (fun ls hl => ?_)
  refine lv_iconst (v := (nI 0)) hx hb dL_blocks_6 (by decide) ?_
  refine lv_istore (lv' := [(4, .int (nI 0)), (3, .int (nI 0)), (2, .int (nI 0)), (1, .int (nI 0)), (0, .ref x0)]) hx hb dL_blocks_7 hl (by decide) rfl (fun ls hl => ?_)
  have LP9 : ∀ (nn : Nat) (mn : Nat) (ow9 : Nat) (kp9 : Nat) (b : Nat) (H : Heap) (locs : List Loc) (ls : Array Slot), (b ≤ 8) → (mn = blN now b) → (ow9 = bsum now (fun _ => true) b) → (kp9 = bsum now (fun s => decide (now s = nI 3)) b) → 8 - b < nn → va_P D vwCl (XW aa x0 x1 x2 pp tt cI cG cC cR VV TV tex pf tl on k) H → va_D A0 (XW aa x0 x1 x2 pp tt cI cG cC cR VV TV tex pf tl on k) → va_S A0 s0.heap H locs → lv_has ls 9 [(4, .int (nI b)), (3, .int (nI kp9)), (2, .int (nI ow9)), (1, .int (nI mn)), (0, .ref x0)] → W P0 l e0 { frames := 5, cells := 0, slots := 0, locals := 114 } s0 m0 a0 b0 t0 c0 H locs 0 0 Q0 (F0 m0 9 ls []) := by
    intro nn
    induction nn with
    | zero => intro mn ow9 kp9 b H locs ls hb9 hm hw hk hmu; exact absurd hmu (Nat.not_lt_zero _)
    | succ nn ih9 =>
      intro mn ow9 kp9 b H locs ls hb9 hm hw hk hmu9 hP hD hS hl
      have hbl := bsum_le now kB ko (fun _ => true) (n := b) hb9
      have hbl3 := bsum_le now kB ko (fun s => decide (now s = nI 3)) (n := b) hb9
      have hbm : blN now b ≤ b := fb_ct_le _ _
      refine lv_iload hx hb dL_blocks_9 (lv_at hl 0 rfl) ?_
      refine lv_bipush (v := (nI 8)) hx hb dL_blocks_11 (by decide) ?_
      refine lv_icmp_ge (tgt := 205) hx hb dL_blocks_13 (by decide) (fun c13 => ?_) (fun c13 => ?_)
      · skip
        replace c13 : 8 ≤ b := by rw [nI_leI (by omega) (by omega)] at c13; try exact c13
        obtain rfl : b = 8 := by omega
        have hA1 := own_all kB ko
        have hA3 := own_kept kB ko hK3
        refine lv_iconst (v := (nI 0)) hx hb dL_blocks_205 (by decide) ?_
        refine lv_istore (lv' := [(4, .int (nI 0)), (3, .int (nI kp9)), (2, .int (nI ow9)), (1, .int (nI mn)), (0, .ref x0)]) hx hb dL_blocks_206 hl (by decide) rfl (fun ls hl => ?_)
        refine lv_iconst (v := (nI 0)) hx hb dL_blocks_208 (by decide) ?_
        refine lv_istore (lv' := [(5, .int (nI 0)), (4, .int (nI 0)), (3, .int (nI kp9)), (2, .int (nI ow9)), (1, .int (nI mn)), (0, .ref x0)]) hx hb dL_blocks_209 hl (by decide) rfl (fun ls hl => ?_)
        have LP211 : ∀ (nn : Nat) (al : Nat) (s9 : Nat) (H : Heap) (locs : List Loc) (ls : Array Slot), (s9 ≤ 320) → (al = fb_ct (fun s => decide (¬ now (320 + s) = nI 0)) s9) → 320 - s9 < nn → va_P D vwCl (XW aa x0 x1 x2 pp tt cI cG cC cR VV TV tex pf tl on k) H → va_D A0 (XW aa x0 x1 x2 pp tt cI cG cC cR VV TV tex pf tl on k) → va_S A0 s0.heap H locs → lv_has ls 9 [(5, .int (nI s9)), (4, .int (nI al)), (3, .int (nI kp9)), (2, .int (nI ow9)), (1, .int (nI mn)), (0, .ref x0)] → W P0 l e0 { frames := 5, cells := 0, slots := 0, locals := 114 } s0 m0 a0 b0 t0 c0 H locs 0 0 Q0 (F0 m0 211 ls []) := by
          intro nn
          induction nn with
          | zero => intro al s9 H locs ls hs9 hal hmu; exact absurd hmu (Nat.not_lt_zero _)
          | succ nn ih211 =>
            intro al s9 H locs ls hs9 hal hmu211 hP hD hS hl
            have hal9 : al ≤ s9 := by rw [hal]; exact fb_ct_le _ _
            refine lv_iload hx hb dL_blocks_211 (lv_at hl 0 rfl) ?_
            refine lv_sipush (v := (nI 320)) hx hb dL_blocks_213 (by decide) ?_
            refine lv_icmp_ge (tgt := 247) hx hb dL_blocks_216 (by decide) (fun c216 => ?_) (fun c216 => ?_)
            · skip
              replace c216 : 320 ≤ s9 := by rw [nI_leI (by omega) (by omega)] at c216; try exact c216
              obtain rfl : s9 = 320 := by omega
              have htl3 := tot_le3 now (nI 3)
              refine lv_aload_n hx hb dL_blocks_247 rfl (lv_at hl 5 rfl) ?_
              refine lv_iconst (v := (nI 4)) hx hb dL_blocks_248 (by decide) ?_
              refine cl_VA (b := x0) (As := [.int (nI 4)]) (rest := []) F hK hA hP hD hS (c_X3_count hX) (cwV 1 hts gL_blocks_X3_count rfl rfl rfl (by decide +kernel) ⟨Nat.le_of_ble_eq_true rfl, Nat.le_of_ble_eq_true rfl⟩) rfl rfl rfl hl.1 rfl (Nat.le_of_ble_eq_true rfl) ⟨Nat.zero_le _, Nat.zero_le _⟩ dL_blocks_249 (fun r249 u249 H locs hw249 hP hD hS => ?_)
              try dsimp only at hw249 hP hD
              obtain rfl : r249 = (nI (blN now 8)) := by rw [hw249, ctA_j (by decide)]; rfl
              refine lv_iload_n hx hb dL_blocks_252 rfl (lv_at hl 4 rfl) ?_
              refine lv_icmp_ne (tgt := 275) hx hb dL_blocks_253 (by decide) (fun c253 => ?_) (fun c253 => ?_)
              · skip
                replace c253 : ¬ (blN now 8) = mn := by rw [nI_eq (by omega) (by omega)] at c253; try exact c253
                exfalso
                omega
              · skip
                replace c253 : (blN now 8) = mn := by rw [nI_eq (by omega) (by omega)] at c253; try exact c253
                refine lv_iload hx hb dL_blocks_256 (lv_at hl 1 rfl) ?_
                refine lv_iload_n hx hb dL_blocks_258 rfl (lv_at hl 3 rfl) ?_
                refine lv_icmp_ne (tgt := 275) hx hb dL_blocks_259 (by decide) (fun c259 => ?_) (fun c259 => ?_)
                · skip
                  replace c259 : ¬ al = ow9 := by rw [nI_eq (by omega) (by omega)] at c259; try exact c259
                  exfalso
                  omega
                · skip
                  replace c259 : al = ow9 := by rw [nI_eq (by omega) (by omega)] at c259; try exact c259
                  refine lv_aload_n hx hb dL_blocks_262 rfl (lv_at hl 5 rfl) ?_
                  refine lv_iconst (v := (nI 3)) hx hb dL_blocks_263 (by decide) ?_
                  refine cl_VA (b := x0) (As := [.int (nI 3)]) (rest := []) F hK hA hP hD hS (c_X3_count hX) (cwV 1 hts gL_blocks_X3_count rfl rfl rfl (by decide +kernel) ⟨Nat.le_of_ble_eq_true rfl, Nat.le_of_ble_eq_true rfl⟩) rfl rfl rfl hl.1 rfl (Nat.le_of_ble_eq_true rfl) ⟨Nat.zero_le _, Nat.zero_le _⟩ dL_blocks_264 (fun r264 u264 H locs hw264 hP hD hS => ?_)
                  try dsimp only at hw264 hP hD
                  obtain rfl : r264 = (nI (tot now (nI 3))) := by rw [hw264, ctA_j (by decide)]; rfl
                  refine lv_iload_n hx hb dL_blocks_267 rfl (lv_at hl 2 rfl) ?_
                  refine lv_icmp_ne (tgt := 275) hx hb dL_blocks_268 (by decide) (fun c268 => ?_) (fun c268 => ?_)
                  · skip
                    replace c268 : ¬ (tot now (nI 3)) = kp9 := by rw [nI_eq (by omega) (by omega)] at c268; try exact c268
                    exfalso
                    omega
                  · skip
                    replace c268 : (tot now (nI 3)) = kp9 := by rw [nI_eq (by omega) (by omega)] at c268; try exact c268
                    refine lv_iconst (v := (nI 1)) hx hb dL_blocks_271 (by decide) ?_
                    refine lv_goto (tgt := 276) hx hb dL_blocks_272 (by decide) ?_
                    exact RETN _ _ (nI 1) () _ _ dL_blocks_276 rfl (rfl) hP hD hS
            · skip
              replace c216 : ¬ (320 ≤ s9) := by rw [nI_leI (by omega) (by omega)] at c216; try exact c216
              refine lv_iload hx hb dL_blocks_219 (lv_at hl 1 rfl) ?_
              refine lv_aload_n hx hb dL_blocks_221 rfl (lv_at hl 5 rfl) ?_
              refine lv_iload hx hb dL_blocks_222 (lv_at hl 0 rfl) ?_
              refine lv_iconst (v := (nI 1)) hx hb dL_blocks_224 (by decide) ?_
              refine cl_VA (b := x0) (As := [.int (nI s9), .int (nI 1)]) (rest := [.int (nI al)]) F hK hA hP hD hS (c_X3_slot hX) (cwV 2 hts gL_blocks_X3_slot rfl rfl rfl (by decide +kernel) ⟨Nat.le_of_ble_eq_true rfl, Nat.le_of_ble_eq_true rfl⟩) rfl rfl rfl hl.1 rfl (Nat.le_of_ble_eq_true rfl) ⟨Nat.zero_le _, Nat.zero_le _⟩ dL_blocks_225 (fun r225 u225 H locs hw225 hP hD hS => ?_)
              try dsimp only at hw225 hP hD
              obtain rfl : r225 = (slA now (nI s9) (nI 1)) := hw225
              refine lv_bipush (v := (-9)) hx hb dL_blocks_228 (by decide) ?_
              refine lv_icmp_ne (tgt := 237) hx hb dL_blocks_230 (by decide) (fun c230 => ?_) (fun c230 => ?_)
              · skip
                have hq : ¬ now (320 + s9) = nI 0 := fun q => c230 ((own_no ko (by omega)).mpr q)
                refine lv_iconst (v := (nI 1)) hx hb dL_blocks_237 (by decide) ?_
                refine lv_iadd hx hb dL_blocks_238 ?_
                refine n_as (x' := nI (al + 1)) (nI_add _ _) ?_
                refine lv_istore (lv' := [(4, .int (nI (al + 1))), (5, .int (nI s9)), (3, .int (nI kp9)), (2, .int (nI ow9)), (1, .int (nI mn)), (0, .ref x0)]) hx hb dL_blocks_239 hl (by decide) rfl (fun ls hl => ?_)
                refine lv_iinc (v := (nI (s9 + 1))) (lv' := [(5, .int (nI (s9 + 1))), (4, .int (nI (al + 1))), (3, .int (nI kp9)), (2, .int (nI ow9)), (1, .int (nI mn)), (0, .ref x0)]) hx hb dL_blocks_241 hl (k := 1) rfl (n_inc1 _) (by decide) rfl (fun ls hl => ?_)
                refine lv_goto (tgt := 211) hx hb dL_blocks_244 (by decide) ?_
                exact ih211 (al + 1) (s9 + 1) _ _ _ (by omega) (by rw [fb_ct_succ, ← hal]; first | rw [if_pos (decide_eq_true hq)] | rw [if_neg (by rw [decide_eq_true_iff]; exact fun q => q hq)]) (by omega) hP hD hS (lv_sub hl [0, 1, 2, 3, 4, 5] rfl)
              · skip
                have hq : now (320 + s9) = nI 0 := (own_no ko (by omega)).mp c230
                refine lv_iconst (v := (nI 0)) hx hb dL_blocks_233 (by decide) ?_
                refine lv_goto (tgt := 238) hx hb dL_blocks_234 (by decide) ?_
                refine lv_iadd hx hb dL_blocks_238 ?_
                refine n_as (x' := nI (al + 0)) (nI_add _ _) ?_
                refine lv_istore (lv' := [(4, .int (nI (al + 0))), (5, .int (nI s9)), (3, .int (nI kp9)), (2, .int (nI ow9)), (1, .int (nI mn)), (0, .ref x0)]) hx hb dL_blocks_239 hl (by decide) rfl (fun ls hl => ?_)
                refine lv_iinc (v := (nI (s9 + 1))) (lv' := [(5, .int (nI (s9 + 1))), (4, .int (nI (al + 0))), (3, .int (nI kp9)), (2, .int (nI ow9)), (1, .int (nI mn)), (0, .ref x0)]) hx hb dL_blocks_241 hl (k := 1) rfl (n_inc1 _) (by decide) rfl (fun ls hl => ?_)
                refine lv_goto (tgt := 211) hx hb dL_blocks_244 (by decide) ?_
                exact ih211 (al + 0) (s9 + 1) _ _ _ (by omega) (by rw [fb_ct_succ, ← hal]; first | rw [if_pos (decide_eq_true hq)] | rw [if_neg (by rw [decide_eq_true_iff]; exact fun q => q hq)]) (by omega) hP hD hS (lv_sub hl [0, 1, 2, 3, 4, 5] rfl)
        exact LP211 _ 0 0 _ _ _ (by omega) (rfl) (Nat.lt_succ_self _) hP hD hS (lv_sub hl [0, 1, 2, 3, 4, 5] rfl)
      · skip
        replace c13 : ¬ (8 ≤ b) := by rw [nI_leI (by omega) (by omega)] at c13; try exact c13
        cases hib : isB now (nI b) with
        | false =>
          skip
          refine lv_aload_n hx hb dL_blocks_16 rfl (lv_at hl 4 rfl) ?_
          refine lv_iload hx hb dL_blocks_17 (lv_at hl 0 rfl) ?_
          refine lv_iconst (v := (nI 0)) hx hb dL_blocks_19 (by decide) ?_
          refine cl_VA (b := x0) (As := [.int (nI b), .int (nI 0)]) (rest := []) F hK hA hP hD hS (c_X3_block hX) (cwV 2 hts gL_blocks_X3_block rfl rfl rfl (by decide +kernel) ⟨Nat.le_of_ble_eq_true rfl, Nat.le_of_ble_eq_true rfl⟩) rfl rfl rfl hl.1 rfl (Nat.le_of_ble_eq_true rfl) ⟨Nat.zero_le _, Nat.zero_le _⟩ dL_blocks_20 (fun r20 u20 H locs hw20 hP hD hS => ?_)
          try dsimp only at hw20 hP hD
          obtain rfl : r20 = (-9) := hw20.trans (bkA_9 (by omega) (by decide) hib)
          refine lv_istore (lv' := [(5, .int (-9)), (4, .int (nI b)), (3, .int (nI kp9)), (2, .int (nI ow9)), (1, .int (nI mn)), (0, .ref x0)]) hx hb dL_blocks_23 hl (by decide) rfl (fun ls hl => ?_)
          refine lv_aload_n hx hb dL_blocks_25 rfl (lv_at hl 5 rfl) ?_
          refine lv_iload hx hb dL_blocks_26 (lv_at hl 1 rfl) ?_
          refine lv_iconst (v := (nI 1)) hx hb dL_blocks_28 (by decide) ?_
          refine cl_VA (b := x0) (As := [.int (nI b), .int (nI 1)]) (rest := []) F hK hA hP hD hS (c_X3_block hX) (cwV 2 hts gL_blocks_X3_block rfl rfl rfl (by decide +kernel) ⟨Nat.le_of_ble_eq_true rfl, Nat.le_of_ble_eq_true rfl⟩) rfl rfl rfl hl.1 rfl (Nat.le_of_ble_eq_true rfl) ⟨Nat.zero_le _, Nat.zero_le _⟩ dL_blocks_29 (fun r29 u29 H locs hw29 hP hD hS => ?_)
          try dsimp only at hw29 hP hD
          obtain rfl : r29 = (-9) := hw29.trans (bkA_9 (by omega) (by decide) hib)
          refine lv_istore (lv' := [(6, .int (-9)), (5, .int (-9)), (4, .int (nI b)), (3, .int (nI kp9)), (2, .int (nI ow9)), (1, .int (nI mn)), (0, .ref x0)]) hx hb dL_blocks_32 hl (by decide) rfl (fun ls hl => ?_)
          refine lv_iload hx hb dL_blocks_34 (lv_at hl 1 rfl) ?_
          refine lv_if_lt (tgt := 199) hx hb dL_blocks_36 (by decide) (fun c36 => ?_) (fun c36 => ?_)
          · skip
            refine lv_iinc (v := (nI (b + 1))) (lv' := [(4, .int (nI (b + 1))), (6, .int (-9)), (5, .int (-9)), (3, .int (nI kp9)), (2, .int (nI ow9)), (1, .int (nI mn)), (0, .ref x0)]) hx hb dL_blocks_199 hl (k := 2) rfl (n_inc1 _) (by decide) rfl (fun ls hl => ?_)
            refine lv_goto (tgt := 9) hx hb dL_blocks_202 (by decide) ?_
            exact ih9 mn ow9 kp9 (b + 1) _ _ _ (by omega) (by rw [blN_n hib, hm]) (by rw [bsum_n hib, hw]) (by rw [bsum_n hib, hk]) (by omega) hP hD hS (lv_sub hl [0, 3, 4, 5, 6] rfl)
          · skip
            exfalso
            exact absurd c36 (by decide)
        | true =>
          obtain ⟨p, z, hp, hz, hok, hmod, hpz⟩ := kB b (by omega) (of_decide_eq_true (by rw [← isB_i (by omega)]; exact hib))
          have hzl := okz_le hok
          refine lv_aload_n hx hb dL_blocks_16 rfl (lv_at hl 4 rfl) ?_
          refine lv_iload hx hb dL_blocks_17 (lv_at hl 0 rfl) ?_
          refine lv_iconst (v := (nI 0)) hx hb dL_blocks_19 (by decide) ?_
          refine cl_VA (b := x0) (As := [.int (nI b), .int (nI 0)]) (rest := []) F hK hA hP hD hS (c_X3_block hX) (cwV 2 hts gL_blocks_X3_block rfl rfl rfl (by decide +kernel) ⟨Nat.le_of_ble_eq_true rfl, Nat.le_of_ble_eq_true rfl⟩) rfl rfl rfl hl.1 rfl (Nat.le_of_ble_eq_true rfl) ⟨Nat.zero_le _, Nat.zero_le _⟩ dL_blocks_20 (fun r20 u20 H locs hw20 hP hD hS => ?_)
          try dsimp only at hw20 hP hD
          obtain rfl : r20 = (nI p) := by rw [hw20, bkA_j (by omega) (by decide) hib hp hz hpz]; rfl
          refine lv_istore (lv' := [(5, .int (nI p)), (4, .int (nI b)), (3, .int (nI kp9)), (2, .int (nI ow9)), (1, .int (nI mn)), (0, .ref x0)]) hx hb dL_blocks_23 hl (by decide) rfl (fun ls hl => ?_)
          refine lv_aload_n hx hb dL_blocks_25 rfl (lv_at hl 5 rfl) ?_
          refine lv_iload hx hb dL_blocks_26 (lv_at hl 1 rfl) ?_
          refine lv_iconst (v := (nI 1)) hx hb dL_blocks_28 (by decide) ?_
          refine cl_VA (b := x0) (As := [.int (nI b), .int (nI 1)]) (rest := []) F hK hA hP hD hS (c_X3_block hX) (cwV 2 hts gL_blocks_X3_block rfl rfl rfl (by decide +kernel) ⟨Nat.le_of_ble_eq_true rfl, Nat.le_of_ble_eq_true rfl⟩) rfl rfl rfl hl.1 rfl (Nat.le_of_ble_eq_true rfl) ⟨Nat.zero_le _, Nat.zero_le _⟩ dL_blocks_29 (fun r29 u29 H locs hw29 hP hD hS => ?_)
          try dsimp only at hw29 hP hD
          obtain rfl : r29 = (nI z) := by rw [hw29, bkA_j (by omega) (by decide) hib hp hz hpz]; rfl
          refine lv_istore (lv' := [(6, .int (nI z)), (5, .int (nI p)), (4, .int (nI b)), (3, .int (nI kp9)), (2, .int (nI ow9)), (1, .int (nI mn)), (0, .ref x0)]) hx hb dL_blocks_32 hl (by decide) rfl (fun ls hl => ?_)
          refine lv_iload hx hb dL_blocks_34 (lv_at hl 1 rfl) ?_
          refine lv_if_lt (tgt := 199) hx hb dL_blocks_36 (by decide) (fun c36 => ?_) (fun c36 => ?_)
          · skip
            replace c36 : p < 0 := by rw [show (0 : Int32) = nI 0 from rfl, nI_ltI (by omega) (by omega)] at c36; try exact c36
            exfalso
            omega
          · skip
            replace c36 : ¬ (p < 0) := by rw [show (0 : Int32) = nI 0 from rfl, nI_ltI (by omega) (by omega)] at c36; try exact c36
            refine lv_iconst (v := (nI 0)) hx hb dL_blocks_39 (by decide) ?_
            refine lv_istore (lv' := [(7, .int (nI 0)), (6, .int (nI z)), (5, .int (nI p)), (4, .int (nI b)), (3, .int (nI kp9)), (2, .int (nI ow9)), (1, .int (nI mn)), (0, .ref x0)]) hx hb dL_blocks_40 hl (by decide) rfl (fun ls hl => ?_)
            refine lv_iload hx hb dL_blocks_42 (lv_at hl 2 rfl) ?_
            refine lv_istore (lv' := [(8, .int (nI p)), (7, .int (nI 0)), (6, .int (nI z)), (5, .int (nI p)), (4, .int (nI b)), (3, .int (nI kp9)), (2, .int (nI ow9)), (1, .int (nI mn)), (0, .ref x0)]) hx hb dL_blocks_44 hl (by decide) rfl (fun ls hl => ?_)
            have LP46 : ∀ (nn : Nat) (us : Nat) (t : Nat) (H : Heap) (locs : List Loc) (ls : Array Slot), (t ≤ z) → (us = fb_ct (fun i => decide (now (p + i) = nI 1)) t) → z - t < nn → va_P D vwCl (XW aa x0 x1 x2 pp tt cI cG cC cR VV TV tex pf tl on k) H → va_D A0 (XW aa x0 x1 x2 pp tt cI cG cC cR VV TV tex pf tl on k) → va_S A0 s0.heap H locs → lv_has ls 9 [(8, .int (nI (p + t))), (7, .int (nI us)), (6, .int (nI z)), (5, .int (nI p)), (4, .int (nI b)), (3, .int (nI kp9)), (2, .int (nI ow9)), (1, .int (nI mn)), (0, .ref x0)] → W P0 l e0 { frames := 5, cells := 0, slots := 0, locals := 114 } s0 m0 a0 b0 t0 c0 H locs 0 0 Q0 (F0 m0 46 ls []) := by
              intro nn
              induction nn with
              | zero => intro us t H locs ls ht hu hmu; exact absurd hmu (Nat.not_lt_zero _)
              | succ nn ih46 =>
                intro us t H locs ls ht hu hmu46 hP hD hS hl
                have hul : us ≤ t := by rw [hu]; exact fb_ct_le _ _
                refine lv_iload hx hb dL_blocks_46 (lv_at hl 0 rfl) ?_
                refine lv_iload hx hb dL_blocks_48 (lv_at hl 3 rfl) ?_
                refine lv_iload hx hb dL_blocks_50 (lv_at hl 2 rfl) ?_
                refine lv_iadd hx hb dL_blocks_52 ?_
                refine n_as (x' := nI (p + z)) (nI_add _ _) ?_
                refine lv_icmp_ge (tgt := 119) hx hb dL_blocks_53 (by decide) (fun c53 => ?_) (fun c53 => ?_)
                · skip
                  replace c53 : (p + z) ≤ (p + t) := by rw [nI_leI (by omega) (by omega)] at c53; try exact c53
                  have htz : t = z := by omega
                  rw [htz] at hu
                  have h13 := blk_13 (f := now) (p := p) (z := z) (n := z) (Nat.le_refl _) (fun s h1 h2 => (own_in ko (b := b) (s := s) (by omega) hp hz hok hpz h1 h2).2)
                  have hok2 : z = 4 ∨ z = 8 ∨ z = 16 ∨ z = 32 := hok
                  refine lv_iload hx hb dL_blocks_119 (lv_at hl 2 rfl) ?_
                  refine lv_iconst (v := (nI 4)) hx hb dL_blocks_121 (by decide) ?_
                  refine lv_icmp_eq (tgt := 146) hx hb dL_blocks_122 (by decide) (fun c122 => ?_) (fun c122 => ?_)
                  · skip
                    replace c122 : z = 4 := by rw [nI_eq (by omega) (by omega)] at c122; try exact c122
                    refine lv_iload hx hb dL_blocks_146 (lv_at hl 3 rfl) ?_
                    refine lv_iload hx hb dL_blocks_148 (lv_at hl 2 rfl) ?_
                    refine lv_irem hx hb dL_blocks_150 (nI_ne0 (by omega) (by omega)) ?_
                    refine n_as (x' := nI (p % z)) (pk_rem (by omega) (by omega) (by omega)) ?_
                    refine lv_if_ne (tgt := 181) hx hb dL_blocks_151 (by decide) (fun c151 => ?_) (fun c151 => ?_)
                    · skip
                      replace c151 : ¬ (p % z) = 0 := by rw [show (0 : Int32) = nI 0 from rfl, nI_eq (by omega) (by omega)] at c151; try exact c151
                      exfalso
                      exact c151 hmod
                    · skip
                      replace c151 : (p % z) = 0 := by rw [show (0 : Int32) = nI 0 from rfl, nI_eq (by omega) (by omega)] at c151; try exact c151
                      refine lv_aload_n hx hb dL_blocks_154 rfl (lv_at hl 8 rfl) ?_
                      refine lv_iload hx hb dL_blocks_155 (lv_at hl 4 rfl) ?_
                      refine lv_iconst (v := (nI 2)) hx hb dL_blocks_157 (by decide) ?_
                      refine cl_VA (b := x0) (As := [.int (nI b), .int (nI 2)]) (rest := []) F hK hA hP hD hS (c_X3_block hX) (cwV 2 hts gL_blocks_X3_block rfl rfl rfl (by decide +kernel) ⟨Nat.le_of_ble_eq_true rfl, Nat.le_of_ble_eq_true rfl⟩) rfl rfl rfl hl.1 rfl (Nat.le_of_ble_eq_true rfl) ⟨Nat.zero_le _, Nat.zero_le _⟩ dL_blocks_158 (fun r158 u158 H locs hw158 hP hD hS => ?_)
                      try dsimp only at hw158 hP hD
                      obtain rfl : r158 = (nI (fb_ct (fun i => decide (now (p + i) = nI 1)) z)) := by rw [hw158, bkA_j (by omega) (by decide) hib hp hz hpz]; rfl
                      refine lv_iload hx hb dL_blocks_161 (lv_at hl 1 rfl) ?_
                      refine lv_icmp_ne (tgt := 181) hx hb dL_blocks_163 (by decide) (fun c163 => ?_) (fun c163 => ?_)
                      · skip
                        replace c163 : ¬ (fb_ct (fun i => decide (now (p + i) = nI 1)) z) = us := by rw [nI_eq (by omega) (by omega)] at c163; try exact c163
                        exfalso
                        omega
                      · skip
                        replace c163 : (fb_ct (fun i => decide (now (p + i) = nI 1)) z) = us := by rw [nI_eq (by omega) (by omega)] at c163; try exact c163
                        refine lv_aload_n hx hb dL_blocks_166 rfl (lv_at hl 8 rfl) ?_
                        refine lv_iload hx hb dL_blocks_167 (lv_at hl 4 rfl) ?_
                        refine lv_iconst (v := (nI 3)) hx hb dL_blocks_169 (by decide) ?_
                        refine cl_VA (b := x0) (As := [.int (nI b), .int (nI 3)]) (rest := []) F hK hA hP hD hS (c_X3_block hX) (cwV 2 hts gL_blocks_X3_block rfl rfl rfl (by decide +kernel) ⟨Nat.le_of_ble_eq_true rfl, Nat.le_of_ble_eq_true rfl⟩) rfl rfl rfl hl.1 rfl (Nat.le_of_ble_eq_true rfl) ⟨Nat.zero_le _, Nat.zero_le _⟩ dL_blocks_170 (fun r170 u170 H locs hw170 hP hD hS => ?_)
                        try dsimp only at hw170 hP hD
                        obtain rfl : r170 = (nI (fb_ct (fun i => decide (now (p + i) = nI 3)) z)) := by rw [hw170, bkA_j (by omega) (by decide) hib hp hz hpz]; rfl
                        refine lv_iload hx hb dL_blocks_173 (lv_at hl 2 rfl) ?_
                        refine lv_iload hx hb dL_blocks_175 (lv_at hl 1 rfl) ?_
                        refine lv_isub hx hb dL_blocks_177 ?_
                        refine n_as (x' := nI (z - us)) (pk_sub (by omega)) ?_
                        refine lv_icmp_eq (tgt := 183) hx hb dL_blocks_178 (by decide) (fun c178 => ?_) (fun c178 => ?_)
                        · skip
                          replace c178 : (fb_ct (fun i => decide (now (p + i) = nI 3)) z) = (z - us) := by rw [nI_eq (by omega) (by omega)] at c178; try exact c178
                          refine lv_iinc (v := (nI (mn + 1))) (lv' := [(1, .int (nI (mn + 1))), (8, .int (nI (p + t))), (7, .int (nI us)), (6, .int (nI z)), (5, .int (nI p)), (4, .int (nI b)), (3, .int (nI kp9)), (2, .int (nI ow9)), (0, .ref x0)]) hx hb dL_blocks_183 hl (k := 7) rfl (n_inc1 _) (by decide) rfl (fun ls hl => ?_)
                          refine lv_iload_n hx hb dL_blocks_186 rfl (lv_at hl 7 rfl) ?_
                          refine lv_iload hx hb dL_blocks_187 (lv_at hl 3 rfl) ?_
                          refine lv_iadd hx hb dL_blocks_189 ?_
                          refine n_as (x' := nI (ow9 + z)) (nI_add _ _) ?_
                          refine lv_istore_n (lv' := [(2, .int (nI (ow9 + z))), (1, .int (nI (mn + 1))), (8, .int (nI (p + t))), (7, .int (nI us)), (6, .int (nI z)), (5, .int (nI p)), (4, .int (nI b)), (3, .int (nI kp9)), (0, .ref x0)]) hx hb dL_blocks_190 rfl hl (by decide) rfl (fun ls hl => ?_)
                          refine lv_iload_n hx hb dL_blocks_191 rfl (lv_at hl 7 rfl) ?_
                          refine lv_iload hx hb dL_blocks_192 (lv_at hl 4 rfl) ?_
                          refine lv_iload hx hb dL_blocks_194 (lv_at hl 3 rfl) ?_
                          refine lv_isub hx hb dL_blocks_196 ?_
                          refine n_as (x' := nI (z - us)) (pk_sub (by omega)) ?_
                          refine lv_iadd hx hb dL_blocks_197 ?_
                          refine n_as (x' := nI (kp9 + (z - us))) (nI_add _ _) ?_
                          refine lv_istore_n (lv' := [(3, .int (nI (kp9 + (z - us)))), (2, .int (nI (ow9 + z))), (1, .int (nI (mn + 1))), (8, .int (nI (p + t))), (7, .int (nI us)), (6, .int (nI z)), (5, .int (nI p)), (4, .int (nI b)), (0, .ref x0)]) hx hb dL_blocks_198 rfl hl (by decide) rfl (fun ls hl => ?_)
                          refine lv_iinc (v := (nI (b + 1))) (lv' := [(4, .int (nI (b + 1))), (3, .int (nI (kp9 + (z - us)))), (2, .int (nI (ow9 + z))), (1, .int (nI (mn + 1))), (8, .int (nI (p + t))), (7, .int (nI us)), (6, .int (nI z)), (5, .int (nI p)), (0, .ref x0)]) hx hb dL_blocks_199 hl (k := 7) rfl (n_inc1 _) (by decide) rfl (fun ls hl => ?_)
                          refine lv_goto (tgt := 9) hx hb dL_blocks_202 (by decide) ?_
                          exact ih9 (mn + 1) (ow9 + z) (kp9 + (z - us)) (b + 1) _ _ _ (by omega) (by rw [blN_y hib, hm]) (by rw [bsum_y hib hp hz hok hpz, ct_true, ← hw]) (by rw [bsum_y (R := fun s => decide (now s = nI 3)) hib hp hz hok hpz, ← hk]; omega) (by omega) hP hD hS (lv_sub hl [0, 1, 2, 3, 8] rfl)
                        · skip
                          replace c178 : ¬ ((fb_ct (fun i => decide (now (p + i) = nI 3)) z) = (z - us)) := by rw [nI_eq (by omega) (by omega)] at c178; try exact c178
                          exfalso
                          omega
                  · skip
                    replace c122 : ¬ (z = 4) := by rw [nI_eq (by omega) (by omega)] at c122; try exact c122
                    refine lv_iload hx hb dL_blocks_125 (lv_at hl 2 rfl) ?_
                    refine lv_bipush (v := (nI 8)) hx hb dL_blocks_127 (by decide) ?_
                    refine lv_icmp_eq (tgt := 146) hx hb dL_blocks_129 (by decide) (fun c129 => ?_) (fun c129 => ?_)
                    · skip
                      replace c129 : z = 8 := by rw [nI_eq (by omega) (by omega)] at c129; try exact c129
                      refine lv_iload hx hb dL_blocks_146 (lv_at hl 3 rfl) ?_
                      refine lv_iload hx hb dL_blocks_148 (lv_at hl 2 rfl) ?_
                      refine lv_irem hx hb dL_blocks_150 (nI_ne0 (by omega) (by omega)) ?_
                      refine n_as (x' := nI (p % z)) (pk_rem (by omega) (by omega) (by omega)) ?_
                      refine lv_if_ne (tgt := 181) hx hb dL_blocks_151 (by decide) (fun c151 => ?_) (fun c151 => ?_)
                      · skip
                        replace c151 : ¬ (p % z) = 0 := by rw [show (0 : Int32) = nI 0 from rfl, nI_eq (by omega) (by omega)] at c151; try exact c151
                        exfalso
                        exact c151 hmod
                      · skip
                        replace c151 : (p % z) = 0 := by rw [show (0 : Int32) = nI 0 from rfl, nI_eq (by omega) (by omega)] at c151; try exact c151
                        refine lv_aload_n hx hb dL_blocks_154 rfl (lv_at hl 8 rfl) ?_
                        refine lv_iload hx hb dL_blocks_155 (lv_at hl 4 rfl) ?_
                        refine lv_iconst (v := (nI 2)) hx hb dL_blocks_157 (by decide) ?_
                        refine cl_VA (b := x0) (As := [.int (nI b), .int (nI 2)]) (rest := []) F hK hA hP hD hS (c_X3_block hX) (cwV 2 hts gL_blocks_X3_block rfl rfl rfl (by decide +kernel) ⟨Nat.le_of_ble_eq_true rfl, Nat.le_of_ble_eq_true rfl⟩) rfl rfl rfl hl.1 rfl (Nat.le_of_ble_eq_true rfl) ⟨Nat.zero_le _, Nat.zero_le _⟩ dL_blocks_158 (fun r158 u158 H locs hw158 hP hD hS => ?_)
                        try dsimp only at hw158 hP hD
                        obtain rfl : r158 = (nI (fb_ct (fun i => decide (now (p + i) = nI 1)) z)) := by rw [hw158, bkA_j (by omega) (by decide) hib hp hz hpz]; rfl
                        refine lv_iload hx hb dL_blocks_161 (lv_at hl 1 rfl) ?_
                        refine lv_icmp_ne (tgt := 181) hx hb dL_blocks_163 (by decide) (fun c163 => ?_) (fun c163 => ?_)
                        · skip
                          replace c163 : ¬ (fb_ct (fun i => decide (now (p + i) = nI 1)) z) = us := by rw [nI_eq (by omega) (by omega)] at c163; try exact c163
                          exfalso
                          omega
                        · skip
                          replace c163 : (fb_ct (fun i => decide (now (p + i) = nI 1)) z) = us := by rw [nI_eq (by omega) (by omega)] at c163; try exact c163
                          refine lv_aload_n hx hb dL_blocks_166 rfl (lv_at hl 8 rfl) ?_
                          refine lv_iload hx hb dL_blocks_167 (lv_at hl 4 rfl) ?_
                          refine lv_iconst (v := (nI 3)) hx hb dL_blocks_169 (by decide) ?_
                          refine cl_VA (b := x0) (As := [.int (nI b), .int (nI 3)]) (rest := []) F hK hA hP hD hS (c_X3_block hX) (cwV 2 hts gL_blocks_X3_block rfl rfl rfl (by decide +kernel) ⟨Nat.le_of_ble_eq_true rfl, Nat.le_of_ble_eq_true rfl⟩) rfl rfl rfl hl.1 rfl (Nat.le_of_ble_eq_true rfl) ⟨Nat.zero_le _, Nat.zero_le _⟩ dL_blocks_170 (fun r170 u170 H locs hw170 hP hD hS => ?_)
                          try dsimp only at hw170 hP hD
                          obtain rfl : r170 = (nI (fb_ct (fun i => decide (now (p + i) = nI 3)) z)) := by rw [hw170, bkA_j (by omega) (by decide) hib hp hz hpz]; rfl
                          refine lv_iload hx hb dL_blocks_173 (lv_at hl 2 rfl) ?_
                          refine lv_iload hx hb dL_blocks_175 (lv_at hl 1 rfl) ?_
                          refine lv_isub hx hb dL_blocks_177 ?_
                          refine n_as (x' := nI (z - us)) (pk_sub (by omega)) ?_
                          refine lv_icmp_eq (tgt := 183) hx hb dL_blocks_178 (by decide) (fun c178 => ?_) (fun c178 => ?_)
                          · skip
                            replace c178 : (fb_ct (fun i => decide (now (p + i) = nI 3)) z) = (z - us) := by rw [nI_eq (by omega) (by omega)] at c178; try exact c178
                            refine lv_iinc (v := (nI (mn + 1))) (lv' := [(1, .int (nI (mn + 1))), (8, .int (nI (p + t))), (7, .int (nI us)), (6, .int (nI z)), (5, .int (nI p)), (4, .int (nI b)), (3, .int (nI kp9)), (2, .int (nI ow9)), (0, .ref x0)]) hx hb dL_blocks_183 hl (k := 7) rfl (n_inc1 _) (by decide) rfl (fun ls hl => ?_)
                            refine lv_iload_n hx hb dL_blocks_186 rfl (lv_at hl 7 rfl) ?_
                            refine lv_iload hx hb dL_blocks_187 (lv_at hl 3 rfl) ?_
                            refine lv_iadd hx hb dL_blocks_189 ?_
                            refine n_as (x' := nI (ow9 + z)) (nI_add _ _) ?_
                            refine lv_istore_n (lv' := [(2, .int (nI (ow9 + z))), (1, .int (nI (mn + 1))), (8, .int (nI (p + t))), (7, .int (nI us)), (6, .int (nI z)), (5, .int (nI p)), (4, .int (nI b)), (3, .int (nI kp9)), (0, .ref x0)]) hx hb dL_blocks_190 rfl hl (by decide) rfl (fun ls hl => ?_)
                            refine lv_iload_n hx hb dL_blocks_191 rfl (lv_at hl 7 rfl) ?_
                            refine lv_iload hx hb dL_blocks_192 (lv_at hl 4 rfl) ?_
                            refine lv_iload hx hb dL_blocks_194 (lv_at hl 3 rfl) ?_
                            refine lv_isub hx hb dL_blocks_196 ?_
                            refine n_as (x' := nI (z - us)) (pk_sub (by omega)) ?_
                            refine lv_iadd hx hb dL_blocks_197 ?_
                            refine n_as (x' := nI (kp9 + (z - us))) (nI_add _ _) ?_
                            refine lv_istore_n (lv' := [(3, .int (nI (kp9 + (z - us)))), (2, .int (nI (ow9 + z))), (1, .int (nI (mn + 1))), (8, .int (nI (p + t))), (7, .int (nI us)), (6, .int (nI z)), (5, .int (nI p)), (4, .int (nI b)), (0, .ref x0)]) hx hb dL_blocks_198 rfl hl (by decide) rfl (fun ls hl => ?_)
                            refine lv_iinc (v := (nI (b + 1))) (lv' := [(4, .int (nI (b + 1))), (3, .int (nI (kp9 + (z - us)))), (2, .int (nI (ow9 + z))), (1, .int (nI (mn + 1))), (8, .int (nI (p + t))), (7, .int (nI us)), (6, .int (nI z)), (5, .int (nI p)), (0, .ref x0)]) hx hb dL_blocks_199 hl (k := 7) rfl (n_inc1 _) (by decide) rfl (fun ls hl => ?_)
                            refine lv_goto (tgt := 9) hx hb dL_blocks_202 (by decide) ?_
                            exact ih9 (mn + 1) (ow9 + z) (kp9 + (z - us)) (b + 1) _ _ _ (by omega) (by rw [blN_y hib, hm]) (by rw [bsum_y hib hp hz hok hpz, ct_true, ← hw]) (by rw [bsum_y (R := fun s => decide (now s = nI 3)) hib hp hz hok hpz, ← hk]; omega) (by omega) hP hD hS (lv_sub hl [0, 1, 2, 3, 8] rfl)
                          · skip
                            replace c178 : ¬ ((fb_ct (fun i => decide (now (p + i) = nI 3)) z) = (z - us)) := by rw [nI_eq (by omega) (by omega)] at c178; try exact c178
                            exfalso
                            omega
                    · skip
                      replace c129 : ¬ (z = 8) := by rw [nI_eq (by omega) (by omega)] at c129; try exact c129
                      refine lv_iload hx hb dL_blocks_132 (lv_at hl 2 rfl) ?_
                      refine lv_bipush (v := (nI 16)) hx hb dL_blocks_134 (by decide) ?_
                      refine lv_icmp_eq (tgt := 146) hx hb dL_blocks_136 (by decide) (fun c136 => ?_) (fun c136 => ?_)
                      · skip
                        replace c136 : z = 16 := by rw [nI_eq (by omega) (by omega)] at c136; try exact c136
                        refine lv_iload hx hb dL_blocks_146 (lv_at hl 3 rfl) ?_
                        refine lv_iload hx hb dL_blocks_148 (lv_at hl 2 rfl) ?_
                        refine lv_irem hx hb dL_blocks_150 (nI_ne0 (by omega) (by omega)) ?_
                        refine n_as (x' := nI (p % z)) (pk_rem (by omega) (by omega) (by omega)) ?_
                        refine lv_if_ne (tgt := 181) hx hb dL_blocks_151 (by decide) (fun c151 => ?_) (fun c151 => ?_)
                        · skip
                          replace c151 : ¬ (p % z) = 0 := by rw [show (0 : Int32) = nI 0 from rfl, nI_eq (by omega) (by omega)] at c151; try exact c151
                          exfalso
                          exact c151 hmod
                        · skip
                          replace c151 : (p % z) = 0 := by rw [show (0 : Int32) = nI 0 from rfl, nI_eq (by omega) (by omega)] at c151; try exact c151
                          refine lv_aload_n hx hb dL_blocks_154 rfl (lv_at hl 8 rfl) ?_
                          refine lv_iload hx hb dL_blocks_155 (lv_at hl 4 rfl) ?_
                          refine lv_iconst (v := (nI 2)) hx hb dL_blocks_157 (by decide) ?_
                          refine cl_VA (b := x0) (As := [.int (nI b), .int (nI 2)]) (rest := []) F hK hA hP hD hS (c_X3_block hX) (cwV 2 hts gL_blocks_X3_block rfl rfl rfl (by decide +kernel) ⟨Nat.le_of_ble_eq_true rfl, Nat.le_of_ble_eq_true rfl⟩) rfl rfl rfl hl.1 rfl (Nat.le_of_ble_eq_true rfl) ⟨Nat.zero_le _, Nat.zero_le _⟩ dL_blocks_158 (fun r158 u158 H locs hw158 hP hD hS => ?_)
                          try dsimp only at hw158 hP hD
                          obtain rfl : r158 = (nI (fb_ct (fun i => decide (now (p + i) = nI 1)) z)) := by rw [hw158, bkA_j (by omega) (by decide) hib hp hz hpz]; rfl
                          refine lv_iload hx hb dL_blocks_161 (lv_at hl 1 rfl) ?_
                          refine lv_icmp_ne (tgt := 181) hx hb dL_blocks_163 (by decide) (fun c163 => ?_) (fun c163 => ?_)
                          · skip
                            replace c163 : ¬ (fb_ct (fun i => decide (now (p + i) = nI 1)) z) = us := by rw [nI_eq (by omega) (by omega)] at c163; try exact c163
                            exfalso
                            omega
                          · skip
                            replace c163 : (fb_ct (fun i => decide (now (p + i) = nI 1)) z) = us := by rw [nI_eq (by omega) (by omega)] at c163; try exact c163
                            refine lv_aload_n hx hb dL_blocks_166 rfl (lv_at hl 8 rfl) ?_
                            refine lv_iload hx hb dL_blocks_167 (lv_at hl 4 rfl) ?_
                            refine lv_iconst (v := (nI 3)) hx hb dL_blocks_169 (by decide) ?_
                            refine cl_VA (b := x0) (As := [.int (nI b), .int (nI 3)]) (rest := []) F hK hA hP hD hS (c_X3_block hX) (cwV 2 hts gL_blocks_X3_block rfl rfl rfl (by decide +kernel) ⟨Nat.le_of_ble_eq_true rfl, Nat.le_of_ble_eq_true rfl⟩) rfl rfl rfl hl.1 rfl (Nat.le_of_ble_eq_true rfl) ⟨Nat.zero_le _, Nat.zero_le _⟩ dL_blocks_170 (fun r170 u170 H locs hw170 hP hD hS => ?_)
                            try dsimp only at hw170 hP hD
                            obtain rfl : r170 = (nI (fb_ct (fun i => decide (now (p + i) = nI 3)) z)) := by rw [hw170, bkA_j (by omega) (by decide) hib hp hz hpz]; rfl
                            refine lv_iload hx hb dL_blocks_173 (lv_at hl 2 rfl) ?_
                            refine lv_iload hx hb dL_blocks_175 (lv_at hl 1 rfl) ?_
                            refine lv_isub hx hb dL_blocks_177 ?_
                            refine n_as (x' := nI (z - us)) (pk_sub (by omega)) ?_
                            refine lv_icmp_eq (tgt := 183) hx hb dL_blocks_178 (by decide) (fun c178 => ?_) (fun c178 => ?_)
                            · skip
                              replace c178 : (fb_ct (fun i => decide (now (p + i) = nI 3)) z) = (z - us) := by rw [nI_eq (by omega) (by omega)] at c178; try exact c178
                              refine lv_iinc (v := (nI (mn + 1))) (lv' := [(1, .int (nI (mn + 1))), (8, .int (nI (p + t))), (7, .int (nI us)), (6, .int (nI z)), (5, .int (nI p)), (4, .int (nI b)), (3, .int (nI kp9)), (2, .int (nI ow9)), (0, .ref x0)]) hx hb dL_blocks_183 hl (k := 7) rfl (n_inc1 _) (by decide) rfl (fun ls hl => ?_)
                              refine lv_iload_n hx hb dL_blocks_186 rfl (lv_at hl 7 rfl) ?_
                              refine lv_iload hx hb dL_blocks_187 (lv_at hl 3 rfl) ?_
                              refine lv_iadd hx hb dL_blocks_189 ?_
                              refine n_as (x' := nI (ow9 + z)) (nI_add _ _) ?_
                              refine lv_istore_n (lv' := [(2, .int (nI (ow9 + z))), (1, .int (nI (mn + 1))), (8, .int (nI (p + t))), (7, .int (nI us)), (6, .int (nI z)), (5, .int (nI p)), (4, .int (nI b)), (3, .int (nI kp9)), (0, .ref x0)]) hx hb dL_blocks_190 rfl hl (by decide) rfl (fun ls hl => ?_)
                              refine lv_iload_n hx hb dL_blocks_191 rfl (lv_at hl 7 rfl) ?_
                              refine lv_iload hx hb dL_blocks_192 (lv_at hl 4 rfl) ?_
                              refine lv_iload hx hb dL_blocks_194 (lv_at hl 3 rfl) ?_
                              refine lv_isub hx hb dL_blocks_196 ?_
                              refine n_as (x' := nI (z - us)) (pk_sub (by omega)) ?_
                              refine lv_iadd hx hb dL_blocks_197 ?_
                              refine n_as (x' := nI (kp9 + (z - us))) (nI_add _ _) ?_
                              refine lv_istore_n (lv' := [(3, .int (nI (kp9 + (z - us)))), (2, .int (nI (ow9 + z))), (1, .int (nI (mn + 1))), (8, .int (nI (p + t))), (7, .int (nI us)), (6, .int (nI z)), (5, .int (nI p)), (4, .int (nI b)), (0, .ref x0)]) hx hb dL_blocks_198 rfl hl (by decide) rfl (fun ls hl => ?_)
                              refine lv_iinc (v := (nI (b + 1))) (lv' := [(4, .int (nI (b + 1))), (3, .int (nI (kp9 + (z - us)))), (2, .int (nI (ow9 + z))), (1, .int (nI (mn + 1))), (8, .int (nI (p + t))), (7, .int (nI us)), (6, .int (nI z)), (5, .int (nI p)), (0, .ref x0)]) hx hb dL_blocks_199 hl (k := 7) rfl (n_inc1 _) (by decide) rfl (fun ls hl => ?_)
                              refine lv_goto (tgt := 9) hx hb dL_blocks_202 (by decide) ?_
                              exact ih9 (mn + 1) (ow9 + z) (kp9 + (z - us)) (b + 1) _ _ _ (by omega) (by rw [blN_y hib, hm]) (by rw [bsum_y hib hp hz hok hpz, ct_true, ← hw]) (by rw [bsum_y (R := fun s => decide (now s = nI 3)) hib hp hz hok hpz, ← hk]; omega) (by omega) hP hD hS (lv_sub hl [0, 1, 2, 3, 8] rfl)
                            · skip
                              replace c178 : ¬ ((fb_ct (fun i => decide (now (p + i) = nI 3)) z) = (z - us)) := by rw [nI_eq (by omega) (by omega)] at c178; try exact c178
                              exfalso
                              omega
                      · skip
                        replace c136 : ¬ (z = 16) := by rw [nI_eq (by omega) (by omega)] at c136; try exact c136
                        refine lv_iload hx hb dL_blocks_139 (lv_at hl 2 rfl) ?_
                        refine lv_bipush (v := (nI 32)) hx hb dL_blocks_141 (by decide) ?_
                        refine lv_icmp_ne (tgt := 181) hx hb dL_blocks_143 (by decide) (fun c143 => ?_) (fun c143 => ?_)
                        · skip
                          replace c143 : ¬ z = 32 := by rw [nI_eq (by omega) (by omega)] at c143; try exact c143
                          exfalso
                          omega
                        · skip
                          replace c143 : z = 32 := by rw [nI_eq (by omega) (by omega)] at c143; try exact c143
                          refine lv_iload hx hb dL_blocks_146 (lv_at hl 3 rfl) ?_
                          refine lv_iload hx hb dL_blocks_148 (lv_at hl 2 rfl) ?_
                          refine lv_irem hx hb dL_blocks_150 (nI_ne0 (by omega) (by omega)) ?_
                          refine n_as (x' := nI (p % z)) (pk_rem (by omega) (by omega) (by omega)) ?_
                          refine lv_if_ne (tgt := 181) hx hb dL_blocks_151 (by decide) (fun c151 => ?_) (fun c151 => ?_)
                          · skip
                            replace c151 : ¬ (p % z) = 0 := by rw [show (0 : Int32) = nI 0 from rfl, nI_eq (by omega) (by omega)] at c151; try exact c151
                            exfalso
                            exact c151 hmod
                          · skip
                            replace c151 : (p % z) = 0 := by rw [show (0 : Int32) = nI 0 from rfl, nI_eq (by omega) (by omega)] at c151; try exact c151
                            refine lv_aload_n hx hb dL_blocks_154 rfl (lv_at hl 8 rfl) ?_
                            refine lv_iload hx hb dL_blocks_155 (lv_at hl 4 rfl) ?_
                            refine lv_iconst (v := (nI 2)) hx hb dL_blocks_157 (by decide) ?_
                            refine cl_VA (b := x0) (As := [.int (nI b), .int (nI 2)]) (rest := []) F hK hA hP hD hS (c_X3_block hX) (cwV 2 hts gL_blocks_X3_block rfl rfl rfl (by decide +kernel) ⟨Nat.le_of_ble_eq_true rfl, Nat.le_of_ble_eq_true rfl⟩) rfl rfl rfl hl.1 rfl (Nat.le_of_ble_eq_true rfl) ⟨Nat.zero_le _, Nat.zero_le _⟩ dL_blocks_158 (fun r158 u158 H locs hw158 hP hD hS => ?_)
                            try dsimp only at hw158 hP hD
                            obtain rfl : r158 = (nI (fb_ct (fun i => decide (now (p + i) = nI 1)) z)) := by rw [hw158, bkA_j (by omega) (by decide) hib hp hz hpz]; rfl
                            refine lv_iload hx hb dL_blocks_161 (lv_at hl 1 rfl) ?_
                            refine lv_icmp_ne (tgt := 181) hx hb dL_blocks_163 (by decide) (fun c163 => ?_) (fun c163 => ?_)
                            · skip
                              replace c163 : ¬ (fb_ct (fun i => decide (now (p + i) = nI 1)) z) = us := by rw [nI_eq (by omega) (by omega)] at c163; try exact c163
                              exfalso
                              omega
                            · skip
                              replace c163 : (fb_ct (fun i => decide (now (p + i) = nI 1)) z) = us := by rw [nI_eq (by omega) (by omega)] at c163; try exact c163
                              refine lv_aload_n hx hb dL_blocks_166 rfl (lv_at hl 8 rfl) ?_
                              refine lv_iload hx hb dL_blocks_167 (lv_at hl 4 rfl) ?_
                              refine lv_iconst (v := (nI 3)) hx hb dL_blocks_169 (by decide) ?_
                              refine cl_VA (b := x0) (As := [.int (nI b), .int (nI 3)]) (rest := []) F hK hA hP hD hS (c_X3_block hX) (cwV 2 hts gL_blocks_X3_block rfl rfl rfl (by decide +kernel) ⟨Nat.le_of_ble_eq_true rfl, Nat.le_of_ble_eq_true rfl⟩) rfl rfl rfl hl.1 rfl (Nat.le_of_ble_eq_true rfl) ⟨Nat.zero_le _, Nat.zero_le _⟩ dL_blocks_170 (fun r170 u170 H locs hw170 hP hD hS => ?_)
                              try dsimp only at hw170 hP hD
                              obtain rfl : r170 = (nI (fb_ct (fun i => decide (now (p + i) = nI 3)) z)) := by rw [hw170, bkA_j (by omega) (by decide) hib hp hz hpz]; rfl
                              refine lv_iload hx hb dL_blocks_173 (lv_at hl 2 rfl) ?_
                              refine lv_iload hx hb dL_blocks_175 (lv_at hl 1 rfl) ?_
                              refine lv_isub hx hb dL_blocks_177 ?_
                              refine n_as (x' := nI (z - us)) (pk_sub (by omega)) ?_
                              refine lv_icmp_eq (tgt := 183) hx hb dL_blocks_178 (by decide) (fun c178 => ?_) (fun c178 => ?_)
                              · skip
                                replace c178 : (fb_ct (fun i => decide (now (p + i) = nI 3)) z) = (z - us) := by rw [nI_eq (by omega) (by omega)] at c178; try exact c178
                                refine lv_iinc (v := (nI (mn + 1))) (lv' := [(1, .int (nI (mn + 1))), (8, .int (nI (p + t))), (7, .int (nI us)), (6, .int (nI z)), (5, .int (nI p)), (4, .int (nI b)), (3, .int (nI kp9)), (2, .int (nI ow9)), (0, .ref x0)]) hx hb dL_blocks_183 hl (k := 7) rfl (n_inc1 _) (by decide) rfl (fun ls hl => ?_)
                                refine lv_iload_n hx hb dL_blocks_186 rfl (lv_at hl 7 rfl) ?_
                                refine lv_iload hx hb dL_blocks_187 (lv_at hl 3 rfl) ?_
                                refine lv_iadd hx hb dL_blocks_189 ?_
                                refine n_as (x' := nI (ow9 + z)) (nI_add _ _) ?_
                                refine lv_istore_n (lv' := [(2, .int (nI (ow9 + z))), (1, .int (nI (mn + 1))), (8, .int (nI (p + t))), (7, .int (nI us)), (6, .int (nI z)), (5, .int (nI p)), (4, .int (nI b)), (3, .int (nI kp9)), (0, .ref x0)]) hx hb dL_blocks_190 rfl hl (by decide) rfl (fun ls hl => ?_)
                                refine lv_iload_n hx hb dL_blocks_191 rfl (lv_at hl 7 rfl) ?_
                                refine lv_iload hx hb dL_blocks_192 (lv_at hl 4 rfl) ?_
                                refine lv_iload hx hb dL_blocks_194 (lv_at hl 3 rfl) ?_
                                refine lv_isub hx hb dL_blocks_196 ?_
                                refine n_as (x' := nI (z - us)) (pk_sub (by omega)) ?_
                                refine lv_iadd hx hb dL_blocks_197 ?_
                                refine n_as (x' := nI (kp9 + (z - us))) (nI_add _ _) ?_
                                refine lv_istore_n (lv' := [(3, .int (nI (kp9 + (z - us)))), (2, .int (nI (ow9 + z))), (1, .int (nI (mn + 1))), (8, .int (nI (p + t))), (7, .int (nI us)), (6, .int (nI z)), (5, .int (nI p)), (4, .int (nI b)), (0, .ref x0)]) hx hb dL_blocks_198 rfl hl (by decide) rfl (fun ls hl => ?_)
                                refine lv_iinc (v := (nI (b + 1))) (lv' := [(4, .int (nI (b + 1))), (3, .int (nI (kp9 + (z - us)))), (2, .int (nI (ow9 + z))), (1, .int (nI (mn + 1))), (8, .int (nI (p + t))), (7, .int (nI us)), (6, .int (nI z)), (5, .int (nI p)), (0, .ref x0)]) hx hb dL_blocks_199 hl (k := 7) rfl (n_inc1 _) (by decide) rfl (fun ls hl => ?_)
                                refine lv_goto (tgt := 9) hx hb dL_blocks_202 (by decide) ?_
                                exact ih9 (mn + 1) (ow9 + z) (kp9 + (z - us)) (b + 1) _ _ _ (by omega) (by rw [blN_y hib, hm]) (by rw [bsum_y hib hp hz hok hpz, ct_true, ← hw]) (by rw [bsum_y (R := fun s => decide (now s = nI 3)) hib hp hz hok hpz, ← hk]; omega) (by omega) hP hD hS (lv_sub hl [0, 1, 2, 3, 8] rfl)
                              · skip
                                replace c178 : ¬ ((fb_ct (fun i => decide (now (p + i) = nI 3)) z) = (z - us)) := by rw [nI_eq (by omega) (by omega)] at c178; try exact c178
                                exfalso
                                omega
                · skip
                  replace c53 : ¬ ((p + z) ≤ (p + t)) := by rw [nI_leI (by omega) (by omega)] at c53; try exact c53
                  obtain ⟨hs1, hs2⟩ := own_in ko (b := b) (s := p + t) (by omega) hp hz hok hpz (by omega) (by omega)
                  refine lv_iload hx hb dL_blocks_56 (lv_at hl 1 rfl) ?_
                  refine lv_aload_n hx hb dL_blocks_58 rfl (lv_at hl 8 rfl) ?_
                  refine lv_iload hx hb dL_blocks_59 (lv_at hl 0 rfl) ?_
                  refine lv_iconst (v := (nI 0)) hx hb dL_blocks_61 (by decide) ?_
                  refine cl_VA (b := x0) (As := [.int (nI (p + t)), .int (nI 0)]) (rest := [.int (nI us)]) F hK hA hP hD hS (c_X3_slot hX) (cwV 2 hts gL_blocks_X3_slot rfl rfl rfl (by decide +kernel) ⟨Nat.le_of_ble_eq_true rfl, Nat.le_of_ble_eq_true rfl⟩) rfl rfl rfl hl.1 rfl (Nat.le_of_ble_eq_true rfl) ⟨Nat.zero_le _, Nat.zero_le _⟩ dL_blocks_62 (fun r62 u62 H locs hw62 hP hD hS => ?_)
                  try dsimp only at hw62 hP hD
                  obtain rfl : r62 = (now (p + t)) := hw62.trans (sl0 (by omega))
                  rcases hs2 with hs2 | hs2
                  ·
                    skip
                    refine n_as (x' := nI 1) hs2 ?_
                    refine lv_iconst (v := (nI 1)) hx hb dL_blocks_65 (by decide) ?_
                    refine lv_icmp_ne (tgt := 73) hx hb dL_blocks_66 (by decide) (fun c66 => ?_) (fun c66 => ?_)
                    · skip
                      exfalso
                      exact absurd c66 (by decide)
                    · skip
                      refine lv_iconst (v := (nI 1)) hx hb dL_blocks_69 (by decide) ?_
                      refine lv_goto (tgt := 74) hx hb dL_blocks_70 (by decide) ?_
                      refine lv_iadd hx hb dL_blocks_74 ?_
                      refine n_as (x' := nI (us + 1)) (nI_add _ _) ?_
                      refine lv_istore (lv' := [(7, .int (nI (us + 1))), (8, .int (nI (p + t))), (6, .int (nI z)), (5, .int (nI p)), (4, .int (nI b)), (3, .int (nI kp9)), (2, .int (nI ow9)), (1, .int (nI mn)), (0, .ref x0)]) hx hb dL_blocks_75 hl (by decide) rfl (fun ls hl => ?_)
                      refine lv_aload_n hx hb dL_blocks_77 rfl (lv_at hl 8 rfl) ?_
                      refine lv_iload hx hb dL_blocks_78 (lv_at hl 1 rfl) ?_
                      refine lv_iconst (v := (nI 1)) hx hb dL_blocks_80 (by decide) ?_
                      refine cl_VA (b := x0) (As := [.int (nI (p + t)), .int (nI 1)]) (rest := []) F hK hA hP hD hS (c_X3_slot hX) (cwV 2 hts gL_blocks_X3_slot rfl rfl rfl (by decide +kernel) ⟨Nat.le_of_ble_eq_true rfl, Nat.le_of_ble_eq_true rfl⟩) rfl rfl rfl hl.1 rfl (Nat.le_of_ble_eq_true rfl) ⟨Nat.zero_le _, Nat.zero_le _⟩ dL_blocks_81 (fun r81 u81 H locs hw81 hP hD hS => ?_)
                      try dsimp only at hw81 hP hD
                      obtain rfl : r81 = (nI b) := hw81.trans hs1
                      refine lv_iload hx hb dL_blocks_84 (lv_at hl 4 rfl) ?_
                      refine lv_icmp_ne (tgt := 111) hx hb dL_blocks_86 (by decide) (fun c86 => ?_) (fun c86 => ?_)
                      · skip
                        replace c86 : ¬ b = b := by rw [nI_eq (by omega) (by omega)] at c86; try exact c86
                        exfalso
                        exact c86 rfl
                      · skip
                        replace c86 : b = b := by rw [nI_eq (by omega) (by omega)] at c86; try exact c86
                        refine lv_aload_n hx hb dL_blocks_89 rfl (lv_at hl 8 rfl) ?_
                        refine lv_iload hx hb dL_blocks_90 (lv_at hl 1 rfl) ?_
                        refine lv_iconst (v := (nI 0)) hx hb dL_blocks_92 (by decide) ?_
                        refine cl_VA (b := x0) (As := [.int (nI (p + t)), .int (nI 0)]) (rest := []) F hK hA hP hD hS (c_X3_slot hX) (cwV 2 hts gL_blocks_X3_slot rfl rfl rfl (by decide +kernel) ⟨Nat.le_of_ble_eq_true rfl, Nat.le_of_ble_eq_true rfl⟩) rfl rfl rfl hl.1 rfl (Nat.le_of_ble_eq_true rfl) ⟨Nat.zero_le _, Nat.zero_le _⟩ dL_blocks_93 (fun r93 u93 H locs hw93 hP hD hS => ?_)
                        try dsimp only at hw93 hP hD
                        obtain rfl : r93 = (nI 1) := by rw [hw93, sl0 (by omega), hs2]; try rfl
                        refine lv_iconst (v := (nI 1)) hx hb dL_blocks_96 (by decide) ?_
                        refine lv_icmp_eq (tgt := 113) hx hb dL_blocks_97 (by decide) (fun c97 => ?_) (fun c97 => ?_)
                        · skip
                          refine lv_iinc (v := (nI ((p + t) + 1))) (lv' := [(8, .int (nI ((p + t) + 1))), (7, .int (nI (us + 1))), (6, .int (nI z)), (5, .int (nI p)), (4, .int (nI b)), (3, .int (nI kp9)), (2, .int (nI ow9)), (1, .int (nI mn)), (0, .ref x0)]) hx hb dL_blocks_113 hl (k := 1) rfl (n_inc1 _) (by decide) rfl (fun ls hl => ?_)
                          refine lv_goto (tgt := 46) hx hb dL_blocks_116 (by decide) ?_
                          exact ih46 (us + 1) (t + 1) _ _ _ (by omega) (by rw [fb_ct_succ, hs2, ← hu]; first | rw [if_pos (by decide)] | rw [if_neg (by decide)]) (by omega) hP hD hS (lv_sub hl [0, 1, 2, 3, 4, 5, 6, 7, 8] rfl)
                        · skip
                          exfalso
                          exact absurd c97 (by decide)
                  ·
                    skip
                    refine n_as (x' := nI 3) hs2 ?_
                    refine lv_iconst (v := (nI 1)) hx hb dL_blocks_65 (by decide) ?_
                    refine lv_icmp_ne (tgt := 73) hx hb dL_blocks_66 (by decide) (fun c66 => ?_) (fun c66 => ?_)
                    · skip
                      refine lv_iconst (v := (nI 0)) hx hb dL_blocks_73 (by decide) ?_
                      refine lv_iadd hx hb dL_blocks_74 ?_
                      refine n_as (x' := nI (us + 0)) (nI_add _ _) ?_
                      refine lv_istore (lv' := [(7, .int (nI (us + 0))), (8, .int (nI (p + t))), (6, .int (nI z)), (5, .int (nI p)), (4, .int (nI b)), (3, .int (nI kp9)), (2, .int (nI ow9)), (1, .int (nI mn)), (0, .ref x0)]) hx hb dL_blocks_75 hl (by decide) rfl (fun ls hl => ?_)
                      refine lv_aload_n hx hb dL_blocks_77 rfl (lv_at hl 8 rfl) ?_
                      refine lv_iload hx hb dL_blocks_78 (lv_at hl 1 rfl) ?_
                      refine lv_iconst (v := (nI 1)) hx hb dL_blocks_80 (by decide) ?_
                      refine cl_VA (b := x0) (As := [.int (nI (p + t)), .int (nI 1)]) (rest := []) F hK hA hP hD hS (c_X3_slot hX) (cwV 2 hts gL_blocks_X3_slot rfl rfl rfl (by decide +kernel) ⟨Nat.le_of_ble_eq_true rfl, Nat.le_of_ble_eq_true rfl⟩) rfl rfl rfl hl.1 rfl (Nat.le_of_ble_eq_true rfl) ⟨Nat.zero_le _, Nat.zero_le _⟩ dL_blocks_81 (fun r81 u81 H locs hw81 hP hD hS => ?_)
                      try dsimp only at hw81 hP hD
                      obtain rfl : r81 = (nI b) := hw81.trans hs1
                      refine lv_iload hx hb dL_blocks_84 (lv_at hl 4 rfl) ?_
                      refine lv_icmp_ne (tgt := 111) hx hb dL_blocks_86 (by decide) (fun c86 => ?_) (fun c86 => ?_)
                      · skip
                        replace c86 : ¬ b = b := by rw [nI_eq (by omega) (by omega)] at c86; try exact c86
                        exfalso
                        exact c86 rfl
                      · skip
                        replace c86 : b = b := by rw [nI_eq (by omega) (by omega)] at c86; try exact c86
                        refine lv_aload_n hx hb dL_blocks_89 rfl (lv_at hl 8 rfl) ?_
                        refine lv_iload hx hb dL_blocks_90 (lv_at hl 1 rfl) ?_
                        refine lv_iconst (v := (nI 0)) hx hb dL_blocks_92 (by decide) ?_
                        refine cl_VA (b := x0) (As := [.int (nI (p + t)), .int (nI 0)]) (rest := []) F hK hA hP hD hS (c_X3_slot hX) (cwV 2 hts gL_blocks_X3_slot rfl rfl rfl (by decide +kernel) ⟨Nat.le_of_ble_eq_true rfl, Nat.le_of_ble_eq_true rfl⟩) rfl rfl rfl hl.1 rfl (Nat.le_of_ble_eq_true rfl) ⟨Nat.zero_le _, Nat.zero_le _⟩ dL_blocks_93 (fun r93 u93 H locs hw93 hP hD hS => ?_)
                        try dsimp only at hw93 hP hD
                        obtain rfl : r93 = (nI 3) := by rw [hw93, sl0 (by omega), hs2]; try rfl
                        refine lv_iconst (v := (nI 1)) hx hb dL_blocks_96 (by decide) ?_
                        refine lv_icmp_eq (tgt := 113) hx hb dL_blocks_97 (by decide) (fun c97 => ?_) (fun c97 => ?_)
                        · skip
                          exfalso
                          exact absurd c97 (by decide)
                        · skip
                          refine lv_aload_n hx hb dL_blocks_100 rfl (lv_at hl 8 rfl) ?_
                          refine lv_iload hx hb dL_blocks_101 (lv_at hl 1 rfl) ?_
                          refine lv_iconst (v := (nI 0)) hx hb dL_blocks_103 (by decide) ?_
                          refine cl_VA (b := x0) (As := [.int (nI (p + t)), .int (nI 0)]) (rest := []) F hK hA hP hD hS (c_X3_slot hX) (cwV 2 hts gL_blocks_X3_slot rfl rfl rfl (by decide +kernel) ⟨Nat.le_of_ble_eq_true rfl, Nat.le_of_ble_eq_true rfl⟩) rfl rfl rfl hl.1 rfl (Nat.le_of_ble_eq_true rfl) ⟨Nat.zero_le _, Nat.zero_le _⟩ dL_blocks_104 (fun r104 u104 H locs hw104 hP hD hS => ?_)
                          try dsimp only at hw104 hP hD
                          obtain rfl : r104 = (nI 3) := by rw [hw104, sl0 (by omega), hs2]; try rfl
                          refine lv_iconst (v := (nI 3)) hx hb dL_blocks_107 (by decide) ?_
                          refine lv_icmp_eq (tgt := 113) hx hb dL_blocks_108 (by decide) (fun c108 => ?_) (fun c108 => ?_)
                          · skip
                            refine lv_iinc (v := (nI ((p + t) + 1))) (lv' := [(8, .int (nI ((p + t) + 1))), (7, .int (nI (us + 0))), (6, .int (nI z)), (5, .int (nI p)), (4, .int (nI b)), (3, .int (nI kp9)), (2, .int (nI ow9)), (1, .int (nI mn)), (0, .ref x0)]) hx hb dL_blocks_113 hl (k := 1) rfl (n_inc1 _) (by decide) rfl (fun ls hl => ?_)
                            refine lv_goto (tgt := 46) hx hb dL_blocks_116 (by decide) ?_
                            exact ih46 (us + 0) (t + 1) _ _ _ (by omega) (by rw [fb_ct_succ, hs2, ← hu]; first | rw [if_pos (by decide)] | rw [if_neg (by decide)]) (by omega) hP hD hS (lv_sub hl [0, 1, 2, 3, 4, 5, 6, 7, 8] rfl)
                          · skip
                            exfalso
                            exact absurd c108 (by decide)
                    · skip
                      exfalso
                      exact absurd c66 (by decide)
            exact LP46 _ 0 0 _ _ _ (by omega) (rfl) (Nat.lt_succ_self _) hP hD hS (lv_sub hl [0, 1, 2, 3, 4, 5, 6, 7, 8] rfl)
  exact LP9 _ 0 0 0 0 _ _ _ (by omega) (rfl) (rfl) (rfl) (Nat.lt_succ_self _) hP hD hS (lv_sub hl [0, 1, 2, 3, 4] rfl)
